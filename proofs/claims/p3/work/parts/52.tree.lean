/-! THE TREE of a group, deep: TT t Z S x y d w lo hi p q u v: x is a node (of sort S below 100) or the head of a list (S = 100 + sort) that ends ahead of y, at depth d, of weight w; all its nodes lie in lo .. hi or p .. q, its regions are the entries u .. v of the table of parts. t f is the f-th array of the group. -/
/-- an indent: its bytes lie in the group's -/
def rind (i : Int) : Prop := ∃ s n, i = 4096 * s + n ∧ 0 ≤ s ∧ 0 ≤ n ∧ n < 4096 ∧ s + n ≤ 60000
theorem rind_0 : rind 0 := ⟨0, 0, by omega, by omega, by omega, by omega, by omega⟩

def TTC (t : Nat → Int → Int) (Z : Int → Int → Prop) (P : Nat → Int → Int → Int → Int → Int → Int → Int → Int → Int → Int → Prop) : Prop := (∀ (S : Nat) (lo hi p q x d u : Int), 100 ≤ S → lo ≤ hi ∧ p ≤ q → P S x x d 0 lo hi p q u u) ∧
  (∀ (S : Nat) (x nx d w1 l1 h1 p1 q1 u m y w2 l2 h2 p2 q2 v lo hi p q w : Int), 100 ≤ S → x ≠ 0 → t 5 x = nx → P (S - 100) x 0 d w1 l1 h1 p1 q1 u m → P S nx y d w2 l2 h2 p2 q2 m v → lo ≤ l1 ∧ l1 ≤ h1 ∧ h1 ≤ l2 ∧ l2 ≤ h2 ∧ h2 ≤ hi ∧ p ≤ p1 ∧ p1 ≤ q1 ∧ q1 ≤ p2 ∧ p2 ≤ q2 ∧ q2 ≤ q → l1 ≤ x ∧ x < h1 ∨ p1 ≤ x ∧ x < q1 → w = w1 + w2 ∧ 0 ≤ w1 ∧ 0 ≤ w2 → u ≤ m ∧ m ≤ v → P S x y d w lo hi p q u v) ∧
  (∀ (d x a b c l1 h1 u u1 l2 h2 u2 l3 h3 v lo hi : Int), 0 ≤ d ∧ d ≤ 20 → t 0 x = 41 → t 1 x = a → t 2 x = b → t 3 x = c → P 2 a 0 d 0 l1 h1 0 0 u u1 → P 103 b 0 d 0 l2 h2 0 0 u1 u2 → P 104 c 0 d 0 l3 h3 0 0 u2 v → lo ≤ x ∧ x < l1 ∧ l1 ≤ h1 ∧ h1 ≤ l2 ∧ l2 ≤ h2 ∧ h2 ≤ l3 ∧ l3 ≤ h3 ∧ h3 ≤ hi → u ≤ u1 ∧ u1 ≤ u2 ∧ u2 ≤ v → P 1 x 0 d 1 lo hi 0 0 u v) ∧
  (∀ (x d lo hi u v : Int), P 1 x 0 d 1 lo hi 0 0 u v → P 17 x 0 d 0 lo hi 0 0 u v) ∧
  (∀ (d x z a s n l1 h1 u m l2 h2 v lo hi : Int), 0 ≤ d ∧ d ≤ 20 → t 0 x = 41 → t 1 x = z → t 2 x = 0 → t 3 x = 0 → t 0 z = 40 → t 1 z = a → t 2 z = s → P 101 a 0 d n l1 h1 0 0 u m → P 10 s 0 d 0 l2 h2 0 0 m v → s ≠ 0 → Z s n → lo ≤ l1 ∧ l1 ≤ h1 ∧ h1 ≤ z ∧ z < l2 ∧ l2 ≤ h2 ∧ h2 ≤ x ∧ x < hi → u ≤ m ∧ m ≤ v → P 17 x 0 d 0 lo hi 0 0 u v) ∧
  (∀ (x a b lo hi d u : Int), t 0 x = 30 → t 1 x = a → t 2 x = b → 0 ≤ a ∧ 0 ≤ b ∧ b ≤ 4000 ∧ a + b ≤ 60000 → lo ≤ x ∧ x < hi → P 2 x 0 d 0 lo hi 0 0 u u) ∧
  (∀ (x k lo hi d u : Int), t 0 x = k → k = 31 ∨ k = 32 → lo ≤ x ∧ x < hi → P 2 x 0 d 0 lo hi 0 0 u u) ∧
  (∀ (x d lo hi u v : Int), P 10 x 0 d 0 lo hi 0 0 u v → P 2 x 0 d 0 lo hi 0 0 u v) ∧
  (∀ (x a d l1 h1 u v lo hi : Int), t 0 x = 34 → t 1 x = a → P 107 a 0 d 0 l1 h1 0 0 u v → lo ≤ x ∧ x < l1 ∧ l1 ≤ h1 ∧ h1 ≤ hi → P 2 x 0 d 0 lo hi 0 0 u v) ∧
  (∀ (x lo hi d u : Int), t 0 x = 35 → lo ≤ x ∧ x < hi → P 2 x 0 d 0 lo hi 0 0 u u) ∧
  (∀ (x a d l1 h1 u v lo hi : Int), t 0 x = 36 → t 2 x = a → P 106 a 0 d 0 l1 h1 0 0 u v → lo ≤ x ∧ x < l1 ∧ l1 ≤ h1 ∧ h1 ≤ hi → P 2 x 0 d 0 lo hi 0 0 u v) ∧
  (∀ (x a b d l1 h1 u m l2 h2 v lo hi : Int), t 0 x = 37 → t 1 x = a → t 2 x = b → P 1 a 0 (d + 1) 1 l1 h1 0 0 u m → P 106 b 0 d 0 l2 h2 0 0 m v → lo ≤ l1 ∧ l1 ≤ h1 ∧ h1 ≤ x ∧ x < l2 ∧ l2 ≤ h2 ∧ h2 ≤ hi → u ≤ m ∧ m ≤ v → P 2 x 0 d 0 lo hi 0 0 u v) ∧
  (∀ (x k a d l1 h1 u v lo hi : Int), t 0 x = 38 → t 1 x = k → 0 ≤ k ∧ k ≤ 8 → t 2 x = a → P 1 a 0 (d + 1) 1 l1 h1 0 0 u v → lo ≤ x ∧ x < l1 ∧ l1 ≤ h1 ∧ h1 ≤ hi → P 2 x 0 d 0 lo hi 0 0 u v) ∧
  (∀ (x a d l1 h1 u v lo hi : Int), t 0 x = 39 → t 1 x = a → P 1 a 0 (d + 1) 1 l1 h1 0 0 u v → lo ≤ l1 ∧ l1 ≤ h1 ∧ h1 ≤ x ∧ x < hi → P 2 x 0 d 0 lo hi 0 0 u v) ∧
  (∀ (x a lo hi d u : Int), t 0 x = 42 → t 1 x = a → 0 ≤ a ∧ a < 17000 → lo ≤ x ∧ x < hi → P 3 x 0 d 0 lo hi 0 0 u u) ∧
  (∀ (x a d l1 h1 u v lo hi : Int), t 0 x = 43 → t 1 x = a → P 1 a 0 (d + 1) 1 l1 h1 0 0 u v → lo ≤ x ∧ x < l1 ∧ l1 ≤ h1 ∧ h1 ≤ hi → P 3 x 0 d 0 lo hi 0 0 u v) ∧
  (∀ (x a nx d l1 h1 u m l2 h2 v lo hi : Int), t 0 x = 44 → t 1 x = a → a ≠ 0 → t 5 a = nx → P 5 a 0 d 0 l1 h1 0 0 u m → P 105 nx 0 d 0 l2 h2 0 0 m v → lo ≤ l1 ∧ l1 ≤ a ∧ a < h1 ∧ h1 ≤ x ∧ x < l2 ∧ l2 ≤ h2 ∧ h2 ≤ hi → u ≤ m ∧ m ≤ v → P 4 x 0 d 0 lo hi 0 0 u v) ∧
  (∀ (x a d l1 h1 u v lo hi : Int), t 0 x = 45 → t 2 x = a → P 106 a 0 d 0 l1 h1 0 0 u v → lo ≤ x ∧ x < l1 ∧ l1 ≤ h1 ∧ h1 ≤ hi → P 5 x 0 d 0 lo hi 0 0 u v) ∧
  (∀ (x a b d l1 h1 u m l2 h2 v lo hi : Int), t 0 x = 46 → t 1 x = a → t 2 x = b → P 1 a 0 (d + 1) 1 l1 h1 0 0 u m → P 106 b 0 d 0 l2 h2 0 0 m v → lo ≤ l1 ∧ l1 ≤ h1 ∧ h1 ≤ x ∧ x < l2 ∧ l2 ≤ h2 ∧ h2 ≤ hi → u ≤ m ∧ m ≤ v → P 5 x 0 d 0 lo hi 0 0 u v) ∧
  (∀ (x a d l1 h1 u v lo hi : Int), t 0 x = 47 → t 1 x = a → P 10 a 0 d 0 l1 h1 0 0 u v → lo ≤ l1 ∧ l1 ≤ h1 ∧ h1 ≤ x ∧ x < hi → P 5 x 0 d 0 lo hi 0 0 u v) ∧
  (∀ (x a d l1 h1 u v lo hi : Int), t 0 x = 50 → t 1 x = a → P 1 a 0 (d + 1) 1 l1 h1 0 0 u v → lo ≤ l1 ∧ l1 ≤ h1 ∧ h1 ≤ x ∧ x < hi → P 6 x 0 d 0 lo hi 0 0 u v) ∧
  (∀ (x a d l1 h1 u v lo hi : Int), t 0 x = 51 → t 1 x = a → P 1 a 0 (d + 1) 1 l1 h1 0 0 u v → lo ≤ x ∧ x < l1 ∧ l1 ≤ h1 ∧ h1 ≤ hi → P 6 x 0 d 0 lo hi 0 0 u v) ∧
  (∀ (x lo hi d u : Int), t 0 x = 59 → t 1 x = 0 → lo ≤ x ∧ x < hi → P 7 x 0 d 0 lo hi 0 0 u u) ∧
  (∀ (x a d l1 h1 u v lo hi : Int), t 0 x = 59 → t 1 x = a → P 1 a 0 (d + 1) 1 l1 h1 0 0 u v → lo ≤ l1 ∧ l1 ≤ h1 ∧ h1 ≤ x ∧ x < hi → P 7 x 0 d 0 lo hi 0 0 u v) ∧
  (∀ (x a lo hi d u : Int), t 0 x = 53 → t 1 x = a → t 2 x = 0 → 3 ≤ a ∧ a ≤ 4 → lo ≤ x ∧ x < hi → P 8 x 0 d 0 lo hi 0 0 u u) ∧
  (∀ (x k a d l1 h1 u v lo hi : Int), t 0 x = 53 → t 1 x = k → 0 ≤ k ∧ k ≤ 4 → t 2 x = a → P 1 a 0 (d + 1) 1 l1 h1 0 0 u v → lo ≤ x ∧ x < l1 ∧ l1 ≤ h1 ∧ h1 ≤ hi → P 8 x 0 d 0 lo hi 0 0 u v) ∧
  (∀ (x a b lo hi d u : Int), t 0 x = 52 → t 1 x = a → 0 ≤ a ∧ a < 17000 → t 2 x = b → b = 0 ∨ b = -1 → lo ≤ x ∧ x < hi → P 9 x 0 d 1 lo hi 0 0 u u) ∧
  (∀ (x a b d l1 h1 u v lo hi : Int), t 0 x = 52 → t 1 x = a → 0 ≤ a ∧ a < 17000 → t 2 x = b → P 19 b 0 d 0 l1 h1 0 0 u v → lo ≤ x ∧ x < l1 ∧ l1 ≤ h1 ∧ h1 ≤ hi → P 9 x 0 d 1 lo hi 0 0 u v) ∧
  (∀ (x a b c d l1 h1 u m d2 w2 l2 h2 v lo hi : Int), t 0 x = 33 → t 1 x = a → t 2 x = b → t 3 x = c → c ≤ 12 → P 109 b 0 d c l1 h1 0 0 u m → P 11 a 0 d2 w2 l2 h2 l2 h2 m v → w2 ≤ 20000 → lo ≤ x ∧ x < l1 ∧ l1 ≤ h1 ∧ h1 ≤ l2 ∧ l2 ≤ h2 ∧ h2 ≤ hi → u ≤ m ∧ m ≤ v → P 10 x 0 d 0 lo hi 0 0 u v) ∧
  (∀ (x a d w l1 h1 p1 q1 u v lo hi p q : Int), t 0 x = 9 → t 1 x = a → P 112 a 0 d w l1 h1 p1 q1 u v → lo ≤ l1 ∧ l1 ≤ h1 ∧ h1 ≤ hi ∧ p ≤ x ∧ x < p1 ∧ p1 ≤ q1 ∧ q1 ≤ q → x < l1 ∨ h1 ≤ x → P 11 x 0 d w lo hi p q u v) ∧
  (∀ (x k p q lo hi d u : Int), t 0 x = k → k = 1 ∨ k = 2 ∨ k = 3 → p ≤ x ∧ x < q ∧ lo ≤ hi → P 12 x 0 d 1 lo hi p q u u) ∧
  (∀ (x a b i d l1 h1 u m l2 h2 v lo hi p q w : Int), t 0 x = 4 → t 1 x = a → t 2 x = b → t 4 x = i → rind i → P 17 a 0 d 0 l1 h1 0 0 u m → P 108 b 0 d 0 l2 h2 0 0 m v → lo ≤ x ∧ x < l1 ∧ l1 ≤ h1 ∧ h1 ≤ l2 ∧ l2 ≤ h2 ∧ h2 ≤ hi ∧ p ≤ q → h2 - x ≤ w → u ≤ m ∧ m ≤ v → P 12 x 0 d w lo hi p q u v) ∧
  (∀ (x a d w1 l1 h1 p1 q1 u v lo hi p q w : Int), t 0 x = 5 → t 1 x = a → P 113 a 0 d w1 l1 h1 p1 q1 u v → lo ≤ l1 ∧ l1 ≤ h1 ∧ h1 ≤ hi ∧ p ≤ x ∧ x < p1 ∧ p1 ≤ q1 ∧ q1 ≤ q → x < l1 ∨ h1 ≤ x → w = w1 + 1 ∧ 0 ≤ w1 → P 12 x 0 d w lo hi p q u v) ∧
  (∀ (x c i u lo hi p q d : Int), t 0 x = 6 → t 3 x = c → t 4 x = i → rind i → 0 ≤ c ∧ c < 320 → t 31 u = x → t 2 x = 0 → lo ≤ x ∧ x < hi ∧ p ≤ q → P 12 x 0 d 1 lo hi p q u (u + 1)) ∧
  (∀ (x c i u b d2 w2 l1 h1 p1 q1 v w lo hi p q d : Int), t 0 x = 6 → t 3 x = c → t 4 x = i → rind i → 0 ≤ c ∧ c < 320 → t 31 u = x → t 2 x = b → P 11 b 0 d2 w2 l1 h1 p1 q1 (u + 1) v → w2 ≤ 20000 ∧ 1 ≤ w → lo ≤ x ∧ x < l1 ∧ l1 ≤ h1 ∧ h1 ≤ hi ∧ p ≤ q ∧ u + 1 ≤ v → p ≤ p1 ∧ p1 ≤ q1 ∧ q1 ≤ q ∨ lo ≤ p1 ∧ p1 ≤ q1 ∧ q1 ≤ hi → x < p1 ∨ q1 ≤ x → P 12 x 0 d w lo hi p q u v) ∧
  (∀ (x c i lo hi p q d u : Int), t 0 x = 7 → t 3 x = c → t 4 x = i → rind i → 0 ≤ c ∧ c < 320 → lo ≤ x ∧ x < hi ∧ p ≤ q → P 12 x 0 d 1 lo hi p q u u) ∧
  (∀ (x a b d l1 h1 u m w2 l2 h2 p1 q1 v lo hi p q w : Int), t 0 x = 8 → t 1 x = a → t 2 x = b → P 20 a 0 d 0 l1 h1 0 0 u m → P 11 b 0 (d + 1) w2 l2 h2 p1 q1 m v → lo ≤ l1 ∧ l1 ≤ h1 ∧ h1 ≤ l2 ∧ l2 ≤ h2 ∧ h2 ≤ hi ∧ p ≤ x ∧ x < p1 ∧ p1 ≤ q1 ∧ q1 ≤ q → (x < l1 ∨ h1 ≤ x) ∧ (x < l2 ∨ h2 ≤ x) → w = w2 + (h1 - l1) + 1 ∧ 0 ≤ w2 → u ≤ m ∧ m ≤ v → P 13 x 0 d w lo hi p q u v) ∧
  (∀ (lo hi d u : Int), lo ≤ hi → P 20 0 0 d 0 lo hi 0 0 u u) ∧
  (∀ (x d lo hi u v : Int), P 14 x 0 d 0 lo hi 0 0 u v → P 20 x 0 d 0 lo hi 0 0 u v) ∧
  (∀ (x d lo hi u v : Int), P 15 x 0 d 0 lo hi 0 0 u v → P 14 x 0 d 0 lo hi 0 0 u v) ∧
  (∀ (x d lo hi u v : Int), P 16 x 0 d 0 lo hi 0 0 u v → P 15 x 0 d 0 lo hi 0 0 u v) ∧
  (∀ (x a nx d l1 h1 u m l2 h2 v lo hi : Int), t 0 x = 55 → t 1 x = a → a ≠ 0 → t 5 a = nx → P 15 a 0 d 0 l1 h1 0 0 u m → P 115 nx 0 d 0 l2 h2 0 0 m v → lo ≤ l1 ∧ l1 ≤ a ∧ a < h1 ∧ h1 ≤ x ∧ x < l2 ∧ l2 ≤ h2 ∧ h2 ≤ hi → u ≤ m ∧ m ≤ v → P 14 x 0 d 0 lo hi 0 0 u v) ∧
  (∀ (x a nx d l1 h1 u m l2 h2 v lo hi : Int), t 0 x = 56 → t 1 x = a → a ≠ 0 → t 5 a = nx → P 16 a 0 d 0 l1 h1 0 0 u m → P 116 nx 0 d 0 l2 h2 0 0 m v → lo ≤ l1 ∧ l1 ≤ a ∧ a < h1 ∧ h1 ≤ x ∧ x < l2 ∧ l2 ≤ h2 ∧ h2 ≤ hi → u ≤ m ∧ m ≤ v → P 15 x 0 d 0 lo hi 0 0 u v) ∧
  (∀ (x a d l1 h1 u v lo hi : Int), t 0 x = 57 → t 1 x = a → P 16 a 0 (d + 1) 0 l1 h1 0 0 u v → lo ≤ l1 ∧ l1 ≤ h1 ∧ h1 ≤ x ∧ x < hi → P 16 x 0 d 0 lo hi 0 0 u v) ∧
  (∀ (x a d l1 h1 u v lo hi : Int), t 0 x = 59 → t 1 x = a → P 14 a 0 (d + 1) 0 l1 h1 0 0 u v → lo ≤ l1 ∧ l1 ≤ h1 ∧ h1 ≤ x ∧ x < hi → P 16 x 0 d 0 lo hi 0 0 u v) ∧
  (∀ (x a d l1 h1 u v lo hi : Int), t 0 x = 58 → t 1 x = a → P 1 a 0 d 1 l1 h1 0 0 u v → lo ≤ l1 ∧ l1 ≤ h1 ∧ h1 ≤ x ∧ x < hi → P 16 x 0 d 0 lo hi 0 0 u v) ∧
  (∀ (x a b c d l1 h1 u v lo hi : Int), t 0 x = 54 → t 1 x = a → t 2 x = b → 0 ≤ a ∧ 0 ≤ b ∧ b ≤ 4000 ∧ a + b ≤ 60000 → t 3 x = c → P 19 c 0 d 0 l1 h1 0 0 u v → lo ≤ x ∧ x < l1 ∧ l1 ≤ h1 ∧ h1 ≤ hi → P 18 x 0 d 1 lo hi 0 0 u v) ∧
  (∀ (x a b lo hi d u : Int), t 0 x = 30 → t 1 x = a → t 2 x = b → 0 ≤ a ∧ 0 ≤ b ∧ b ≤ 4000 ∧ a + b ≤ 60000 → lo ≤ x ∧ x < hi → P 19 x 0 d 0 lo hi 0 0 u u) ∧
  (∀ (x k lo hi d u : Int), t 0 x = k → k = 31 ∨ k = 32 ∨ k = 34 ∨ k = 56 → lo ≤ x ∧ x < hi → P 19 x 0 d 0 lo hi 0 0 u u) ∧
  (∀ (x d lo hi u v : Int), P 10 x 0 d 0 lo hi 0 0 u v → P 19 x 0 d 0 lo hi 0 0 u v)
def TT (t : Nat → Int → Int) (Z : Int → Int → Prop) (S : Nat) (x y d w lo hi p q u v : Int) : Prop := ∀ P : Nat → Int → Int → Int → Int → Int → Int → Int → Int → Int → Int → Prop, TTC t Z P → P S x y d w lo hi p q u v
theorem TT.nil {t : Nat → Int → Int} {Z : Int → Int → Prop} {S : Nat} {lo hi p q x d u : Int} (H0 : 100 ≤ S) (H1 : lo ≤ hi ∧ p ≤ q) : TT t Z S x x d 0 lo hi p q u u := fun P hP => hP.1 _ _ _ _ _ _ _ _ H0 H1
theorem TT.cons {t : Nat → Int → Int} {Z : Int → Int → Prop} {S : Nat} {x nx d w1 l1 h1 p1 q1 u m y w2 l2 h2 p2 q2 v lo hi p q w : Int} (H0 : 100 ≤ S) (H1 : x ≠ 0) (H2 : t 5 x = nx) (H3 : TT t Z (S - 100) x 0 d w1 l1 h1 p1 q1 u m) (H4 : TT t Z S nx y d w2 l2 h2 p2 q2 m v) (H5 : lo ≤ l1 ∧ l1 ≤ h1 ∧ h1 ≤ l2 ∧ l2 ≤ h2 ∧ h2 ≤ hi ∧ p ≤ p1 ∧ p1 ≤ q1 ∧ q1 ≤ p2 ∧ p2 ≤ q2 ∧ q2 ≤ q) (H6 : l1 ≤ x ∧ x < h1 ∨ p1 ≤ x ∧ x < q1) (H7 : w = w1 + w2 ∧ 0 ≤ w1 ∧ 0 ≤ w2) (H8 : u ≤ m ∧ m ≤ v) : TT t Z S x y d w lo hi p q u v := fun P hP => hP.2.1 _ _ _ _ _ _ _ _ _ _ _ _ _ _ _ _ _ _ _ _ _ _ _ H0 H1 H2 (H3 P hP) (H4 P hP) H5 H6 H7 H8
theorem TT.item {t : Nat → Int → Int} {Z : Int → Int → Prop} {d x a b c l1 h1 u u1 l2 h2 u2 l3 h3 v lo hi : Int} (H0 : 0 ≤ d ∧ d ≤ 20) (H1 : t 0 x = 41) (H2 : t 1 x = a) (H3 : t 2 x = b) (H4 : t 3 x = c) (H5 : TT t Z 2 a 0 d 0 l1 h1 0 0 u u1) (H6 : TT t Z 103 b 0 d 0 l2 h2 0 0 u1 u2) (H7 : TT t Z 104 c 0 d 0 l3 h3 0 0 u2 v) (H8 : lo ≤ x ∧ x < l1 ∧ l1 ≤ h1 ∧ h1 ≤ l2 ∧ l2 ≤ h2 ∧ h2 ≤ l3 ∧ l3 ≤ h3 ∧ h3 ≤ hi) (H9 : u ≤ u1 ∧ u1 ≤ u2 ∧ u2 ≤ v) : TT t Z 1 x 0 d 1 lo hi 0 0 u v := fun P hP => hP.2.2.1 _ _ _ _ _ _ _ _ _ _ _ _ _ _ _ _ _ H0 H1 H2 H3 H4 (H5 P hP) (H6 P hP) (H7 P hP) H8 H9
theorem TT.zone {t : Nat → Int → Int} {Z : Int → Int → Prop} {x d lo hi u v : Int} (H0 : TT t Z 1 x 0 d 1 lo hi 0 0 u v) : TT t Z 17 x 0 d 0 lo hi 0 0 u v := fun P hP => hP.2.2.2.1 _ _ _ _ _ _ (H0 P hP)
theorem TT.zip {t : Nat → Int → Int} {Z : Int → Int → Prop} {d x z a s n l1 h1 u m l2 h2 v lo hi : Int} (H0 : 0 ≤ d ∧ d ≤ 20) (H1 : t 0 x = 41) (H2 : t 1 x = z) (H3 : t 2 x = 0) (H4 : t 3 x = 0) (H5 : t 0 z = 40) (H6 : t 1 z = a) (H7 : t 2 z = s) (H8 : TT t Z 101 a 0 d n l1 h1 0 0 u m) (H9 : TT t Z 10 s 0 d 0 l2 h2 0 0 m v) (H10 : s ≠ 0) (H11 : Z s n) (H12 : lo ≤ l1 ∧ l1 ≤ h1 ∧ h1 ≤ z ∧ z < l2 ∧ l2 ≤ h2 ∧ h2 ≤ x ∧ x < hi) (H13 : u ≤ m ∧ m ≤ v) : TT t Z 17 x 0 d 0 lo hi 0 0 u v := fun P hP => hP.2.2.2.2.1 _ _ _ _ _ _ _ _ _ _ _ _ _ _ _ H0 H1 H2 H3 H4 H5 H6 H7 (H8 P hP) (H9 P hP) H10 H11 H12 H13
theorem TT.str {t : Nat → Int → Int} {Z : Int → Int → Prop} {x a b lo hi d u : Int} (H0 : t 0 x = 30) (H1 : t 1 x = a) (H2 : t 2 x = b) (H3 : 0 ≤ a ∧ 0 ≤ b ∧ b ≤ 4000 ∧ a + b ≤ 60000) (H4 : lo ≤ x ∧ x < hi) : TT t Z 2 x 0 d 0 lo hi 0 0 u u := fun P hP => hP.2.2.2.2.2.1 _ _ _ _ _ _ _ H0 H1 H2 H3 H4
theorem TT.tru {t : Nat → Int → Int} {Z : Int → Int → Prop} {x k lo hi d u : Int} (H0 : t 0 x = k) (H1 : k = 31 ∨ k = 32) (H2 : lo ≤ x ∧ x < hi) : TT t Z 2 x 0 d 0 lo hi 0 0 u u := fun P hP => hP.2.2.2.2.2.2.1 _ _ _ _ _ _ H0 H1 H2
theorem TT.psub {t : Nat → Int → Int} {Z : Int → Int → Prop} {x d lo hi u v : Int} (H0 : TT t Z 10 x 0 d 0 lo hi 0 0 u v) : TT t Z 2 x 0 d 0 lo hi 0 0 u v := fun P hP => hP.2.2.2.2.2.2.2.1 _ _ _ _ _ _ (H0 P hP)
theorem TT.row {t : Nat → Int → Int} {Z : Int → Int → Prop} {x a d l1 h1 u v lo hi : Int} (H0 : t 0 x = 34) (H1 : t 1 x = a) (H2 : TT t Z 107 a 0 d 0 l1 h1 0 0 u v) (H3 : lo ≤ x ∧ x < l1 ∧ l1 ≤ h1 ∧ h1 ≤ hi) : TT t Z 2 x 0 d 0 lo hi 0 0 u v := fun P hP => hP.2.2.2.2.2.2.2.2.1 _ _ _ _ _ _ _ _ _ H0 H1 (H2 P hP) H3
theorem TT.name {t : Nat → Int → Int} {Z : Int → Int → Prop} {x lo hi d u : Int} (H0 : t 0 x = 35) (H1 : lo ≤ x ∧ x < hi) : TT t Z 2 x 0 d 0 lo hi 0 0 u u := fun P hP => hP.2.2.2.2.2.2.2.2.2.1 _ _ _ _ _ H0 H1
theorem TT.call {t : Nat → Int → Int} {Z : Int → Int → Prop} {x a d l1 h1 u v lo hi : Int} (H0 : t 0 x = 36) (H1 : t 2 x = a) (H2 : TT t Z 106 a 0 d 0 l1 h1 0 0 u v) (H3 : lo ≤ x ∧ x < l1 ∧ l1 ≤ h1 ∧ h1 ≤ hi) : TT t Z 2 x 0 d 0 lo hi 0 0 u v := fun P hP => hP.2.2.2.2.2.2.2.2.2.2.1 _ _ _ _ _ _ _ _ _ H0 H1 (H2 P hP) H3
theorem TT.byt {t : Nat → Int → Int} {Z : Int → Int → Prop} {x a b d l1 h1 u m l2 h2 v lo hi : Int} (H0 : t 0 x = 37) (H1 : t 1 x = a) (H2 : t 2 x = b) (H3 : TT t Z 1 a 0 (d + 1) 1 l1 h1 0 0 u m) (H4 : TT t Z 106 b 0 d 0 l2 h2 0 0 m v) (H5 : lo ≤ l1 ∧ l1 ≤ h1 ∧ h1 ≤ x ∧ x < l2 ∧ l2 ≤ h2 ∧ h2 ≤ hi) (H6 : u ≤ m ∧ m ≤ v) : TT t Z 2 x 0 d 0 lo hi 0 0 u v := fun P hP => hP.2.2.2.2.2.2.2.2.2.2.2.1 _ _ _ _ _ _ _ _ _ _ _ _ _ H0 H1 H2 (H3 P hP) (H4 P hP) H5 H6
theorem TT.func {t : Nat → Int → Int} {Z : Int → Int → Prop} {x k a d l1 h1 u v lo hi : Int} (H0 : t 0 x = 38) (H1 : t 1 x = k) (H2 : 0 ≤ k ∧ k ≤ 8) (H3 : t 2 x = a) (H4 : TT t Z 1 a 0 (d + 1) 1 l1 h1 0 0 u v) (H5 : lo ≤ x ∧ x < l1 ∧ l1 ≤ h1 ∧ h1 ≤ hi) : TT t Z 2 x 0 d 0 lo hi 0 0 u v := fun P hP => hP.2.2.2.2.2.2.2.2.2.2.2.2.1 _ _ _ _ _ _ _ _ _ _ H0 H1 H2 H3 (H4 P hP) H5
theorem TT.word {t : Nat → Int → Int} {Z : Int → Int → Prop} {x a d l1 h1 u v lo hi : Int} (H0 : t 0 x = 39) (H1 : t 1 x = a) (H2 : TT t Z 1 a 0 (d + 1) 1 l1 h1 0 0 u v) (H3 : lo ≤ l1 ∧ l1 ≤ h1 ∧ h1 ≤ x ∧ x < hi) : TT t Z 2 x 0 d 0 lo hi 0 0 u v := fun P hP => hP.2.2.2.2.2.2.2.2.2.2.2.2.2.1 _ _ _ _ _ _ _ _ _ H0 H1 (H2 P hP) H3
theorem TT.pt {t : Nat → Int → Int} {Z : Int → Int → Prop} {x a lo hi d u : Int} (H0 : t 0 x = 42) (H1 : t 1 x = a) (H2 : 0 ≤ a ∧ a < 17000) (H3 : lo ≤ x ∧ x < hi) : TT t Z 3 x 0 d 0 lo hi 0 0 u u := fun P hP => hP.2.2.2.2.2.2.2.2.2.2.2.2.2.2.1 _ _ _ _ _ _ H0 H1 H2 H3
theorem TT.ptby {t : Nat → Int → Int} {Z : Int → Int → Prop} {x a d l1 h1 u v lo hi : Int} (H0 : t 0 x = 43) (H1 : t 1 x = a) (H2 : TT t Z 1 a 0 (d + 1) 1 l1 h1 0 0 u v) (H3 : lo ≤ x ∧ x < l1 ∧ l1 ≤ h1 ∧ h1 ≤ hi) : TT t Z 3 x 0 d 0 lo hi 0 0 u v := fun P hP => hP.2.2.2.2.2.2.2.2.2.2.2.2.2.2.2.1 _ _ _ _ _ _ _ _ _ H0 H1 (H2 P hP) H3
theorem TT.gp {t : Nat → Int → Int} {Z : Int → Int → Prop} {x a nx d l1 h1 u m l2 h2 v lo hi : Int} (H0 : t 0 x = 44) (H1 : t 1 x = a) (H2 : a ≠ 0) (H3 : t 5 a = nx) (H4 : TT t Z 5 a 0 d 0 l1 h1 0 0 u m) (H5 : TT t Z 105 nx 0 d 0 l2 h2 0 0 m v) (H6 : lo ≤ l1 ∧ l1 ≤ a ∧ a < h1 ∧ h1 ≤ x ∧ x < l2 ∧ l2 ≤ h2 ∧ h2 ≤ hi) (H7 : u ≤ m ∧ m ≤ v) : TT t Z 4 x 0 d 0 lo hi 0 0 u v := fun P hP => hP.2.2.2.2.2.2.2.2.2.2.2.2.2.2.2.2.1 _ _ _ _ _ _ _ _ _ _ _ _ _ H0 H1 H2 H3 (H4 P hP) (H5 P hP) H6 H7
theorem TT.apc {t : Nat → Int → Int} {Z : Int → Int → Prop} {x a d l1 h1 u v lo hi : Int} (H0 : t 0 x = 45) (H1 : t 2 x = a) (H2 : TT t Z 106 a 0 d 0 l1 h1 0 0 u v) (H3 : lo ≤ x ∧ x < l1 ∧ l1 ≤ h1 ∧ h1 ≤ hi) : TT t Z 5 x 0 d 0 lo hi 0 0 u v := fun P hP => hP.2.2.2.2.2.2.2.2.2.2.2.2.2.2.2.2.2.1 _ _ _ _ _ _ _ _ _ H0 H1 (H2 P hP) H3
theorem TT.apb {t : Nat → Int → Int} {Z : Int → Int → Prop} {x a b d l1 h1 u m l2 h2 v lo hi : Int} (H0 : t 0 x = 46) (H1 : t 1 x = a) (H2 : t 2 x = b) (H3 : TT t Z 1 a 0 (d + 1) 1 l1 h1 0 0 u m) (H4 : TT t Z 106 b 0 d 0 l2 h2 0 0 m v) (H5 : lo ≤ l1 ∧ l1 ≤ h1 ∧ h1 ≤ x ∧ x < l2 ∧ l2 ≤ h2 ∧ h2 ≤ hi) (H6 : u ≤ m ∧ m ≤ v) : TT t Z 5 x 0 d 0 lo hi 0 0 u v := fun P hP => hP.2.2.2.2.2.2.2.2.2.2.2.2.2.2.2.2.2.2.1 _ _ _ _ _ _ _ _ _ _ _ _ _ H0 H1 H2 (H3 P hP) (H4 P hP) H5 H6
theorem TT.aps {t : Nat → Int → Int} {Z : Int → Int → Prop} {x a d l1 h1 u v lo hi : Int} (H0 : t 0 x = 47) (H1 : t 1 x = a) (H2 : TT t Z 10 a 0 d 0 l1 h1 0 0 u v) (H3 : lo ≤ l1 ∧ l1 ≤ h1 ∧ h1 ≤ x ∧ x < hi) : TT t Z 5 x 0 d 0 lo hi 0 0 u v := fun P hP => hP.2.2.2.2.2.2.2.2.2.2.2.2.2.2.2.2.2.2.2.1 _ _ _ _ _ _ _ _ _ H0 H1 (H2 P hP) H3
theorem TT.giv {t : Nat → Int → Int} {Z : Int → Int → Prop} {x a d l1 h1 u v lo hi : Int} (H0 : t 0 x = 50) (H1 : t 1 x = a) (H2 : TT t Z 1 a 0 (d + 1) 1 l1 h1 0 0 u v) (H3 : lo ≤ l1 ∧ l1 ≤ h1 ∧ h1 ≤ x ∧ x < hi) : TT t Z 6 x 0 d 0 lo hi 0 0 u v := fun P hP => hP.2.2.2.2.2.2.2.2.2.2.2.2.2.2.2.2.2.2.2.2.1 _ _ _ _ _ _ _ _ _ H0 H1 (H2 P hP) H3
theorem TT.nam {t : Nat → Int → Int} {Z : Int → Int → Prop} {x a d l1 h1 u v lo hi : Int} (H0 : t 0 x = 51) (H1 : t 1 x = a) (H2 : TT t Z 1 a 0 (d + 1) 1 l1 h1 0 0 u v) (H3 : lo ≤ x ∧ x < l1 ∧ l1 ≤ h1 ∧ h1 ≤ hi) : TT t Z 6 x 0 d 0 lo hi 0 0 u v := fun P hP => hP.2.2.2.2.2.2.2.2.2.2.2.2.2.2.2.2.2.2.2.2.2.1 _ _ _ _ _ _ _ _ _ H0 H1 (H2 P hP) H3
theorem TT.lk0 {t : Nat → Int → Int} {Z : Int → Int → Prop} {x lo hi d u : Int} (H0 : t 0 x = 59) (H1 : t 1 x = 0) (H2 : lo ≤ x ∧ x < hi) : TT t Z 7 x 0 d 0 lo hi 0 0 u u := fun P hP => hP.2.2.2.2.2.2.2.2.2.2.2.2.2.2.2.2.2.2.2.2.2.2.1 _ _ _ _ _ H0 H1 H2
theorem TT.lk {t : Nat → Int → Int} {Z : Int → Int → Prop} {x a d l1 h1 u v lo hi : Int} (H0 : t 0 x = 59) (H1 : t 1 x = a) (H2 : TT t Z 1 a 0 (d + 1) 1 l1 h1 0 0 u v) (H3 : lo ≤ l1 ∧ l1 ≤ h1 ∧ h1 ≤ x ∧ x < hi) : TT t Z 7 x 0 d 0 lo hi 0 0 u v := fun P hP => hP.2.2.2.2.2.2.2.2.2.2.2.2.2.2.2.2.2.2.2.2.2.2.2.1 _ _ _ _ _ _ _ _ _ H0 H1 (H2 P hP) H3
theorem TT.op0 {t : Nat → Int → Int} {Z : Int → Int → Prop} {x a lo hi d u : Int} (H0 : t 0 x = 53) (H1 : t 1 x = a) (H2 : t 2 x = 0) (H3 : 3 ≤ a ∧ a ≤ 4) (H4 : lo ≤ x ∧ x < hi) : TT t Z 8 x 0 d 0 lo hi 0 0 u u := fun P hP => hP.2.2.2.2.2.2.2.2.2.2.2.2.2.2.2.2.2.2.2.2.2.2.2.2.1 _ _ _ _ _ _ H0 H1 H2 H3 H4
theorem TT.op {t : Nat → Int → Int} {Z : Int → Int → Prop} {x k a d l1 h1 u v lo hi : Int} (H0 : t 0 x = 53) (H1 : t 1 x = k) (H2 : 0 ≤ k ∧ k ≤ 4) (H3 : t 2 x = a) (H4 : TT t Z 1 a 0 (d + 1) 1 l1 h1 0 0 u v) (H5 : lo ≤ x ∧ x < l1 ∧ l1 ≤ h1 ∧ h1 ≤ hi) : TT t Z 8 x 0 d 0 lo hi 0 0 u v := fun P hP => hP.2.2.2.2.2.2.2.2.2.2.2.2.2.2.2.2.2.2.2.2.2.2.2.2.2.1 _ _ _ _ _ _ _ _ _ _ H0 H1 H2 H3 (H4 P hP) H5
theorem TT.pm {t : Nat → Int → Int} {Z : Int → Int → Prop} {x a b lo hi d u : Int} (H0 : t 0 x = 52) (H1 : t 1 x = a) (H2 : 0 ≤ a ∧ a < 17000) (H3 : t 2 x = b) (H4 : b = 0 ∨ b = -1) (H5 : lo ≤ x ∧ x < hi) : TT t Z 9 x 0 d 1 lo hi 0 0 u u := fun P hP => hP.2.2.2.2.2.2.2.2.2.2.2.2.2.2.2.2.2.2.2.2.2.2.2.2.2.2.1 _ _ _ _ _ _ _ H0 H1 H2 H3 H4 H5
theorem TT.pmv {t : Nat → Int → Int} {Z : Int → Int → Prop} {x a b d l1 h1 u v lo hi : Int} (H0 : t 0 x = 52) (H1 : t 1 x = a) (H2 : 0 ≤ a ∧ a < 17000) (H3 : t 2 x = b) (H4 : TT t Z 19 b 0 d 0 l1 h1 0 0 u v) (H5 : lo ≤ x ∧ x < l1 ∧ l1 ≤ h1 ∧ h1 ≤ hi) : TT t Z 9 x 0 d 1 lo hi 0 0 u v := fun P hP => hP.2.2.2.2.2.2.2.2.2.2.2.2.2.2.2.2.2.2.2.2.2.2.2.2.2.2.2.1 _ _ _ _ _ _ _ _ _ _ H0 H1 H2 H3 (H4 P hP) H5
theorem TT.subn {t : Nat → Int → Int} {Z : Int → Int → Prop} {x a b c d l1 h1 u m d2 w2 l2 h2 v lo hi : Int} (H0 : t 0 x = 33) (H1 : t 1 x = a) (H2 : t 2 x = b) (H3 : t 3 x = c) (H4 : c ≤ 12) (H5 : TT t Z 109 b 0 d c l1 h1 0 0 u m) (H6 : TT t Z 11 a 0 d2 w2 l2 h2 l2 h2 m v) (H7 : w2 ≤ 20000) (H8 : lo ≤ x ∧ x < l1 ∧ l1 ≤ h1 ∧ h1 ≤ l2 ∧ l2 ≤ h2 ∧ h2 ≤ hi) (H9 : u ≤ m ∧ m ≤ v) : TT t Z 10 x 0 d 0 lo hi 0 0 u v := fun P hP => hP.2.2.2.2.2.2.2.2.2.2.2.2.2.2.2.2.2.2.2.2.2.2.2.2.2.2.2.2.1 _ _ _ _ _ _ _ _ _ _ _ _ _ _ _ _ H0 H1 H2 H3 H4 (H5 P hP) (H6 P hP) H7 H8 H9
theorem TT.txt {t : Nat → Int → Int} {Z : Int → Int → Prop} {x a d w l1 h1 p1 q1 u v lo hi p q : Int} (H0 : t 0 x = 9) (H1 : t 1 x = a) (H2 : TT t Z 112 a 0 d w l1 h1 p1 q1 u v) (H3 : lo ≤ l1 ∧ l1 ≤ h1 ∧ h1 ≤ hi ∧ p ≤ x ∧ x < p1 ∧ p1 ≤ q1 ∧ q1 ≤ q) (H4 : x < l1 ∨ h1 ≤ x) : TT t Z 11 x 0 d w lo hi p q u v := fun P hP => hP.2.2.2.2.2.2.2.2.2.2.2.2.2.2.2.2.2.2.2.2.2.2.2.2.2.2.2.2.2.1 _ _ _ _ _ _ _ _ _ _ _ _ _ _ H0 H1 (H2 P hP) H3 H4
theorem TT.byte {t : Nat → Int → Int} {Z : Int → Int → Prop} {x k p q lo hi d u : Int} (H0 : t 0 x = k) (H1 : k = 1 ∨ k = 2 ∨ k = 3) (H2 : p ≤ x ∧ x < q ∧ lo ≤ hi) : TT t Z 12 x 0 d 1 lo hi p q u u := fun P hP => hP.2.2.2.2.2.2.2.2.2.2.2.2.2.2.2.2.2.2.2.2.2.2.2.2.2.2.2.2.2.2.1 _ _ _ _ _ _ _ _ H0 H1 H2
theorem TT.expr {t : Nat → Int → Int} {Z : Int → Int → Prop} {x a b i d l1 h1 u m l2 h2 v lo hi p q w : Int} (H0 : t 0 x = 4) (H1 : t 1 x = a) (H2 : t 2 x = b) (H3 : t 4 x = i) (H4 : rind i) (H5 : TT t Z 17 a 0 d 0 l1 h1 0 0 u m) (H6 : TT t Z 108 b 0 d 0 l2 h2 0 0 m v) (H7 : lo ≤ x ∧ x < l1 ∧ l1 ≤ h1 ∧ h1 ≤ l2 ∧ l2 ≤ h2 ∧ h2 ≤ hi ∧ p ≤ q) (H8 : h2 - x ≤ w) (H9 : u ≤ m ∧ m ≤ v) : TT t Z 12 x 0 d w lo hi p q u v := fun P hP => hP.2.2.2.2.2.2.2.2.2.2.2.2.2.2.2.2.2.2.2.2.2.2.2.2.2.2.2.2.2.2.2.1 _ _ _ _ _ _ _ _ _ _ _ _ _ _ _ _ _ H0 H1 H2 H3 H4 (H5 P hP) (H6 P hP) H7 H8 H9
theorem TT.ife {t : Nat → Int → Int} {Z : Int → Int → Prop} {x a d w1 l1 h1 p1 q1 u v lo hi p q w : Int} (H0 : t 0 x = 5) (H1 : t 1 x = a) (H2 : TT t Z 113 a 0 d w1 l1 h1 p1 q1 u v) (H3 : lo ≤ l1 ∧ l1 ≤ h1 ∧ h1 ≤ hi ∧ p ≤ x ∧ x < p1 ∧ p1 ≤ q1 ∧ q1 ≤ q) (H4 : x < l1 ∨ h1 ≤ x) (H5 : w = w1 + 1 ∧ 0 ≤ w1) : TT t Z 12 x 0 d w lo hi p q u v := fun P hP => hP.2.2.2.2.2.2.2.2.2.2.2.2.2.2.2.2.2.2.2.2.2.2.2.2.2.2.2.2.2.2.2.2.1 _ _ _ _ _ _ _ _ _ _ _ _ _ _ _ H0 H1 (H2 P hP) H3 H4 H5
theorem TT.part {t : Nat → Int → Int} {Z : Int → Int → Prop} {x c i u lo hi p q d : Int} (H0 : t 0 x = 6) (H1 : t 3 x = c) (H2 : t 4 x = i) (H3 : rind i) (H4 : 0 ≤ c ∧ c < 320) (H5 : t 31 u = x) (H6 : t 2 x = 0) (H7 : lo ≤ x ∧ x < hi ∧ p ≤ q) : TT t Z 12 x 0 d 1 lo hi p q u (u + 1) := fun P hP => hP.2.2.2.2.2.2.2.2.2.2.2.2.2.2.2.2.2.2.2.2.2.2.2.2.2.2.2.2.2.2.2.2.2.1 _ _ _ _ _ _ _ _ _ H0 H1 H2 H3 H4 H5 H6 H7
theorem TT.part2 {t : Nat → Int → Int} {Z : Int → Int → Prop} {x c i u b d2 w2 l1 h1 p1 q1 v w lo hi p q d : Int} (H0 : t 0 x = 6) (H1 : t 3 x = c) (H2 : t 4 x = i) (H3 : rind i) (H4 : 0 ≤ c ∧ c < 320) (H5 : t 31 u = x) (H6 : t 2 x = b) (H7 : TT t Z 11 b 0 d2 w2 l1 h1 p1 q1 (u + 1) v) (H8 : w2 ≤ 20000 ∧ 1 ≤ w) (H9 : lo ≤ x ∧ x < l1 ∧ l1 ≤ h1 ∧ h1 ≤ hi ∧ p ≤ q ∧ u + 1 ≤ v) (H10 : p ≤ p1 ∧ p1 ≤ q1 ∧ q1 ≤ q ∨ lo ≤ p1 ∧ p1 ≤ q1 ∧ q1 ≤ hi) (H11 : x < p1 ∨ q1 ≤ x) : TT t Z 12 x 0 d w lo hi p q u v := fun P hP => hP.2.2.2.2.2.2.2.2.2.2.2.2.2.2.2.2.2.2.2.2.2.2.2.2.2.2.2.2.2.2.2.2.2.2.1 _ _ _ _ _ _ _ _ _ _ _ _ _ _ _ _ _ _ H0 H1 H2 H3 H4 H5 H6 (H7 P hP) H8 H9 H10 H11
theorem TT.sup {t : Nat → Int → Int} {Z : Int → Int → Prop} {x c i lo hi p q d u : Int} (H0 : t 0 x = 7) (H1 : t 3 x = c) (H2 : t 4 x = i) (H3 : rind i) (H4 : 0 ≤ c ∧ c < 320) (H5 : lo ≤ x ∧ x < hi ∧ p ≤ q) : TT t Z 12 x 0 d 1 lo hi p q u u := fun P hP => hP.2.2.2.2.2.2.2.2.2.2.2.2.2.2.2.2.2.2.2.2.2.2.2.2.2.2.2.2.2.2.2.2.2.2.2.1 _ _ _ _ _ _ _ _ _ H0 H1 H2 H3 H4 H5
theorem TT.br {t : Nat → Int → Int} {Z : Int → Int → Prop} {x a b d l1 h1 u m w2 l2 h2 p1 q1 v lo hi p q w : Int} (H0 : t 0 x = 8) (H1 : t 1 x = a) (H2 : t 2 x = b) (H3 : TT t Z 20 a 0 d 0 l1 h1 0 0 u m) (H4 : TT t Z 11 b 0 (d + 1) w2 l2 h2 p1 q1 m v) (H5 : lo ≤ l1 ∧ l1 ≤ h1 ∧ h1 ≤ l2 ∧ l2 ≤ h2 ∧ h2 ≤ hi ∧ p ≤ x ∧ x < p1 ∧ p1 ≤ q1 ∧ q1 ≤ q) (H6 : (x < l1 ∨ h1 ≤ x) ∧ (x < l2 ∨ h2 ≤ x)) (H7 : w = w2 + (h1 - l1) + 1 ∧ 0 ≤ w2) (H8 : u ≤ m ∧ m ≤ v) : TT t Z 13 x 0 d w lo hi p q u v := fun P hP => hP.2.2.2.2.2.2.2.2.2.2.2.2.2.2.2.2.2.2.2.2.2.2.2.2.2.2.2.2.2.2.2.2.2.2.2.2.1 _ _ _ _ _ _ _ _ _ _ _ _ _ _ _ _ _ _ _ H0 H1 H2 (H3 P hP) (H4 P hP) H5 H6 H7 H8
theorem TT.co0 {t : Nat → Int → Int} {Z : Int → Int → Prop} {lo hi d u : Int} (H0 : lo ≤ hi) : TT t Z 20 0 0 d 0 lo hi 0 0 u u := fun P hP => hP.2.2.2.2.2.2.2.2.2.2.2.2.2.2.2.2.2.2.2.2.2.2.2.2.2.2.2.2.2.2.2.2.2.2.2.2.2.1 _ _ _ _ H0
theorem TT.co1 {t : Nat → Int → Int} {Z : Int → Int → Prop} {x d lo hi u v : Int} (H0 : TT t Z 14 x 0 d 0 lo hi 0 0 u v) : TT t Z 20 x 0 d 0 lo hi 0 0 u v := fun P hP => hP.2.2.2.2.2.2.2.2.2.2.2.2.2.2.2.2.2.2.2.2.2.2.2.2.2.2.2.2.2.2.2.2.2.2.2.2.2.2.1 _ _ _ _ _ _ (H0 P hP)
theorem TT.c45 {t : Nat → Int → Int} {Z : Int → Int → Prop} {x d lo hi u v : Int} (H0 : TT t Z 15 x 0 d 0 lo hi 0 0 u v) : TT t Z 14 x 0 d 0 lo hi 0 0 u v := fun P hP => hP.2.2.2.2.2.2.2.2.2.2.2.2.2.2.2.2.2.2.2.2.2.2.2.2.2.2.2.2.2.2.2.2.2.2.2.2.2.2.2.1 _ _ _ _ _ _ (H0 P hP)
theorem TT.c56 {t : Nat → Int → Int} {Z : Int → Int → Prop} {x d lo hi u v : Int} (H0 : TT t Z 16 x 0 d 0 lo hi 0 0 u v) : TT t Z 15 x 0 d 0 lo hi 0 0 u v := fun P hP => hP.2.2.2.2.2.2.2.2.2.2.2.2.2.2.2.2.2.2.2.2.2.2.2.2.2.2.2.2.2.2.2.2.2.2.2.2.2.2.2.2.1 _ _ _ _ _ _ (H0 P hP)
theorem TT.eith {t : Nat → Int → Int} {Z : Int → Int → Prop} {x a nx d l1 h1 u m l2 h2 v lo hi : Int} (H0 : t 0 x = 55) (H1 : t 1 x = a) (H2 : a ≠ 0) (H3 : t 5 a = nx) (H4 : TT t Z 15 a 0 d 0 l1 h1 0 0 u m) (H5 : TT t Z 115 nx 0 d 0 l2 h2 0 0 m v) (H6 : lo ≤ l1 ∧ l1 ≤ a ∧ a < h1 ∧ h1 ≤ x ∧ x < l2 ∧ l2 ≤ h2 ∧ h2 ≤ hi) (H7 : u ≤ m ∧ m ≤ v) : TT t Z 14 x 0 d 0 lo hi 0 0 u v := fun P hP => hP.2.2.2.2.2.2.2.2.2.2.2.2.2.2.2.2.2.2.2.2.2.2.2.2.2.2.2.2.2.2.2.2.2.2.2.2.2.2.2.2.2.1 _ _ _ _ _ _ _ _ _ _ _ _ _ H0 H1 H2 H3 (H4 P hP) (H5 P hP) H6 H7
theorem TT.both {t : Nat → Int → Int} {Z : Int → Int → Prop} {x a nx d l1 h1 u m l2 h2 v lo hi : Int} (H0 : t 0 x = 56) (H1 : t 1 x = a) (H2 : a ≠ 0) (H3 : t 5 a = nx) (H4 : TT t Z 16 a 0 d 0 l1 h1 0 0 u m) (H5 : TT t Z 116 nx 0 d 0 l2 h2 0 0 m v) (H6 : lo ≤ l1 ∧ l1 ≤ a ∧ a < h1 ∧ h1 ≤ x ∧ x < l2 ∧ l2 ≤ h2 ∧ h2 ≤ hi) (H7 : u ≤ m ∧ m ≤ v) : TT t Z 15 x 0 d 0 lo hi 0 0 u v := fun P hP => hP.2.2.2.2.2.2.2.2.2.2.2.2.2.2.2.2.2.2.2.2.2.2.2.2.2.2.2.2.2.2.2.2.2.2.2.2.2.2.2.2.2.2.1 _ _ _ _ _ _ _ _ _ _ _ _ _ H0 H1 H2 H3 (H4 P hP) (H5 P hP) H6 H7
theorem TT.not {t : Nat → Int → Int} {Z : Int → Int → Prop} {x a d l1 h1 u v lo hi : Int} (H0 : t 0 x = 57) (H1 : t 1 x = a) (H2 : TT t Z 16 a 0 (d + 1) 0 l1 h1 0 0 u v) (H3 : lo ≤ l1 ∧ l1 ≤ h1 ∧ h1 ≤ x ∧ x < hi) : TT t Z 16 x 0 d 0 lo hi 0 0 u v := fun P hP => hP.2.2.2.2.2.2.2.2.2.2.2.2.2.2.2.2.2.2.2.2.2.2.2.2.2.2.2.2.2.2.2.2.2.2.2.2.2.2.2.2.2.2.2.1 _ _ _ _ _ _ _ _ _ H0 H1 (H2 P hP) H3
theorem TT.clk {t : Nat → Int → Int} {Z : Int → Int → Prop} {x a d l1 h1 u v lo hi : Int} (H0 : t 0 x = 59) (H1 : t 1 x = a) (H2 : TT t Z 14 a 0 (d + 1) 0 l1 h1 0 0 u v) (H3 : lo ≤ l1 ∧ l1 ≤ h1 ∧ h1 ≤ x ∧ x < hi) : TT t Z 16 x 0 d 0 lo hi 0 0 u v := fun P hP => hP.2.2.2.2.2.2.2.2.2.2.2.2.2.2.2.2.2.2.2.2.2.2.2.2.2.2.2.2.2.2.2.2.2.2.2.2.2.2.2.2.2.2.2.2.1 _ _ _ _ _ _ _ _ _ H0 H1 (H2 P hP) H3
theorem TT.ask {t : Nat → Int → Int} {Z : Int → Int → Prop} {x a d l1 h1 u v lo hi : Int} (H0 : t 0 x = 58) (H1 : t 1 x = a) (H2 : TT t Z 1 a 0 d 1 l1 h1 0 0 u v) (H3 : lo ≤ l1 ∧ l1 ≤ h1 ∧ h1 ≤ x ∧ x < hi) : TT t Z 16 x 0 d 0 lo hi 0 0 u v := fun P hP => hP.2.2.2.2.2.2.2.2.2.2.2.2.2.2.2.2.2.2.2.2.2.2.2.2.2.2.2.2.2.2.2.2.2.2.2.2.2.2.2.2.2.2.2.2.2.1 _ _ _ _ _ _ _ _ _ H0 H1 (H2 P hP) H3
theorem TT.ent {t : Nat → Int → Int} {Z : Int → Int → Prop} {x a b c d l1 h1 u v lo hi : Int} (H0 : t 0 x = 54) (H1 : t 1 x = a) (H2 : t 2 x = b) (H3 : 0 ≤ a ∧ 0 ≤ b ∧ b ≤ 4000 ∧ a + b ≤ 60000) (H4 : t 3 x = c) (H5 : TT t Z 19 c 0 d 0 l1 h1 0 0 u v) (H6 : lo ≤ x ∧ x < l1 ∧ l1 ≤ h1 ∧ h1 ≤ hi) : TT t Z 18 x 0 d 1 lo hi 0 0 u v := fun P hP => hP.2.2.2.2.2.2.2.2.2.2.2.2.2.2.2.2.2.2.2.2.2.2.2.2.2.2.2.2.2.2.2.2.2.2.2.2.2.2.2.2.2.2.2.2.2.2.1 _ _ _ _ _ _ _ _ _ _ _ H0 H1 H2 H3 H4 (H5 P hP) H6
theorem TT.vstr {t : Nat → Int → Int} {Z : Int → Int → Prop} {x a b lo hi d u : Int} (H0 : t 0 x = 30) (H1 : t 1 x = a) (H2 : t 2 x = b) (H3 : 0 ≤ a ∧ 0 ≤ b ∧ b ≤ 4000 ∧ a + b ≤ 60000) (H4 : lo ≤ x ∧ x < hi) : TT t Z 19 x 0 d 0 lo hi 0 0 u u := fun P hP => hP.2.2.2.2.2.2.2.2.2.2.2.2.2.2.2.2.2.2.2.2.2.2.2.2.2.2.2.2.2.2.2.2.2.2.2.2.2.2.2.2.2.2.2.2.2.2.2.1 _ _ _ _ _ _ _ H0 H1 H2 H3 H4
theorem TT.vtru {t : Nat → Int → Int} {Z : Int → Int → Prop} {x k lo hi d u : Int} (H0 : t 0 x = k) (H1 : k = 31 ∨ k = 32 ∨ k = 34 ∨ k = 56) (H2 : lo ≤ x ∧ x < hi) : TT t Z 19 x 0 d 0 lo hi 0 0 u u := fun P hP => hP.2.2.2.2.2.2.2.2.2.2.2.2.2.2.2.2.2.2.2.2.2.2.2.2.2.2.2.2.2.2.2.2.2.2.2.2.2.2.2.2.2.2.2.2.2.2.2.2.1 _ _ _ _ _ _ H0 H1 H2
theorem TT.vsub {t : Nat → Int → Int} {Z : Int → Int → Prop} {x d lo hi u v : Int} (H0 : TT t Z 10 x 0 d 0 lo hi 0 0 u v) : TT t Z 19 x 0 d 0 lo hi 0 0 u v := fun P hP => hP.2.2.2.2.2.2.2.2.2.2.2.2.2.2.2.2.2.2.2.2.2.2.2.2.2.2.2.2.2.2.2.2.2.2.2.2.2.2.2.2.2.2.2.2.2.2.2.2.2 _ _ _ _ _ _ (H0 P hP)
theorem TT.le {t : Nat → Int → Int} {Z : Int → Int → Prop} {S : Nat} {x y d w lo hi p q u v : Int} (h : TT t Z S x y d w lo hi p q u v) : lo ≤ hi ∧ p ≤ q ∧ u ≤ v ∧ 0 ≤ w := by
  refine (h (fun S x y d w lo hi p q u v => TT t Z S x y d w lo hi p q u v ∧ (lo ≤ hi ∧ p ≤ q ∧ u ≤ v ∧ 0 ≤ w)) ⟨?_, ?_, ?_, ?_, ?_, ?_, ?_, ?_, ?_, ?_, ?_, ?_, ?_, ?_, ?_, ?_, ?_, ?_, ?_, ?_, ?_, ?_, ?_, ?_, ?_, ?_, ?_, ?_, ?_, ?_, ?_, ?_, ?_, ?_, ?_, ?_, ?_, ?_, ?_, ?_, ?_, ?_, ?_, ?_, ?_, ?_, ?_, ?_, ?_, ?_⟩).2
  · intro S lo hi p q x d u H0 H1
    refine ⟨TT.nil H0 H1, ?_⟩
    omega
  · intro S x nx d w1 l1 h1 p1 q1 u m y w2 l2 h2 p2 q2 v lo hi p q w H0 H1 H2 G3 G4 H5 H6 H7 H8
    obtain ⟨H3, ih3⟩ := G3
    obtain ⟨H4, ih4⟩ := G4
    refine ⟨TT.cons H0 H1 H2 H3 H4 H5 H6 H7 H8, ?_⟩
    omega
  · intro d x a b c l1 h1 u u1 l2 h2 u2 l3 h3 v lo hi H0 H1 H2 H3 H4 G5 G6 G7 H8 H9
    obtain ⟨H5, ih5⟩ := G5
    obtain ⟨H6, ih6⟩ := G6
    obtain ⟨H7, ih7⟩ := G7
    refine ⟨TT.item H0 H1 H2 H3 H4 H5 H6 H7 H8 H9, ?_⟩
    omega
  · intro x d lo hi u v G0
    obtain ⟨H0, ih0⟩ := G0
    refine ⟨TT.zone H0, ?_⟩
    omega
  · intro d x z a s n l1 h1 u m l2 h2 v lo hi H0 H1 H2 H3 H4 H5 H6 H7 G8 G9 H10 H11 H12 H13
    obtain ⟨H8, ih8⟩ := G8
    obtain ⟨H9, ih9⟩ := G9
    refine ⟨TT.zip H0 H1 H2 H3 H4 H5 H6 H7 H8 H9 H10 H11 H12 H13, ?_⟩
    omega
  · intro x a b lo hi d u H0 H1 H2 H3 H4
    refine ⟨TT.str H0 H1 H2 H3 H4, ?_⟩
    omega
  · intro x k lo hi d u H0 H1 H2
    refine ⟨TT.tru H0 H1 H2, ?_⟩
    omega
  · intro x d lo hi u v G0
    obtain ⟨H0, ih0⟩ := G0
    refine ⟨TT.psub H0, ?_⟩
    omega
  · intro x a d l1 h1 u v lo hi H0 H1 G2 H3
    obtain ⟨H2, ih2⟩ := G2
    refine ⟨TT.row H0 H1 H2 H3, ?_⟩
    omega
  · intro x lo hi d u H0 H1
    refine ⟨TT.name H0 H1, ?_⟩
    omega
  · intro x a d l1 h1 u v lo hi H0 H1 G2 H3
    obtain ⟨H2, ih2⟩ := G2
    refine ⟨TT.call H0 H1 H2 H3, ?_⟩
    omega
  · intro x a b d l1 h1 u m l2 h2 v lo hi H0 H1 H2 G3 G4 H5 H6
    obtain ⟨H3, ih3⟩ := G3
    obtain ⟨H4, ih4⟩ := G4
    refine ⟨TT.byt H0 H1 H2 H3 H4 H5 H6, ?_⟩
    omega
  · intro x k a d l1 h1 u v lo hi H0 H1 H2 H3 G4 H5
    obtain ⟨H4, ih4⟩ := G4
    refine ⟨TT.func H0 H1 H2 H3 H4 H5, ?_⟩
    omega
  · intro x a d l1 h1 u v lo hi H0 H1 G2 H3
    obtain ⟨H2, ih2⟩ := G2
    refine ⟨TT.word H0 H1 H2 H3, ?_⟩
    omega
  · intro x a lo hi d u H0 H1 H2 H3
    refine ⟨TT.pt H0 H1 H2 H3, ?_⟩
    omega
  · intro x a d l1 h1 u v lo hi H0 H1 G2 H3
    obtain ⟨H2, ih2⟩ := G2
    refine ⟨TT.ptby H0 H1 H2 H3, ?_⟩
    omega
  · intro x a nx d l1 h1 u m l2 h2 v lo hi H0 H1 H2 H3 G4 G5 H6 H7
    obtain ⟨H4, ih4⟩ := G4
    obtain ⟨H5, ih5⟩ := G5
    refine ⟨TT.gp H0 H1 H2 H3 H4 H5 H6 H7, ?_⟩
    omega
  · intro x a d l1 h1 u v lo hi H0 H1 G2 H3
    obtain ⟨H2, ih2⟩ := G2
    refine ⟨TT.apc H0 H1 H2 H3, ?_⟩
    omega
  · intro x a b d l1 h1 u m l2 h2 v lo hi H0 H1 H2 G3 G4 H5 H6
    obtain ⟨H3, ih3⟩ := G3
    obtain ⟨H4, ih4⟩ := G4
    refine ⟨TT.apb H0 H1 H2 H3 H4 H5 H6, ?_⟩
    omega
  · intro x a d l1 h1 u v lo hi H0 H1 G2 H3
    obtain ⟨H2, ih2⟩ := G2
    refine ⟨TT.aps H0 H1 H2 H3, ?_⟩
    omega
  · intro x a d l1 h1 u v lo hi H0 H1 G2 H3
    obtain ⟨H2, ih2⟩ := G2
    refine ⟨TT.giv H0 H1 H2 H3, ?_⟩
    omega
  · intro x a d l1 h1 u v lo hi H0 H1 G2 H3
    obtain ⟨H2, ih2⟩ := G2
    refine ⟨TT.nam H0 H1 H2 H3, ?_⟩
    omega
  · intro x lo hi d u H0 H1 H2
    refine ⟨TT.lk0 H0 H1 H2, ?_⟩
    omega
  · intro x a d l1 h1 u v lo hi H0 H1 G2 H3
    obtain ⟨H2, ih2⟩ := G2
    refine ⟨TT.lk H0 H1 H2 H3, ?_⟩
    omega
  · intro x a lo hi d u H0 H1 H2 H3 H4
    refine ⟨TT.op0 H0 H1 H2 H3 H4, ?_⟩
    omega
  · intro x k a d l1 h1 u v lo hi H0 H1 H2 H3 G4 H5
    obtain ⟨H4, ih4⟩ := G4
    refine ⟨TT.op H0 H1 H2 H3 H4 H5, ?_⟩
    omega
  · intro x a b lo hi d u H0 H1 H2 H3 H4 H5
    refine ⟨TT.pm H0 H1 H2 H3 H4 H5, ?_⟩
    omega
  · intro x a b d l1 h1 u v lo hi H0 H1 H2 H3 G4 H5
    obtain ⟨H4, ih4⟩ := G4
    refine ⟨TT.pmv H0 H1 H2 H3 H4 H5, ?_⟩
    omega
  · intro x a b c d l1 h1 u m d2 w2 l2 h2 v lo hi H0 H1 H2 H3 H4 G5 G6 H7 H8 H9
    obtain ⟨H5, ih5⟩ := G5
    obtain ⟨H6, ih6⟩ := G6
    refine ⟨TT.subn H0 H1 H2 H3 H4 H5 H6 H7 H8 H9, ?_⟩
    omega
  · intro x a d w l1 h1 p1 q1 u v lo hi p q H0 H1 G2 H3 H4
    obtain ⟨H2, ih2⟩ := G2
    refine ⟨TT.txt H0 H1 H2 H3 H4, ?_⟩
    omega
  · intro x k p q lo hi d u H0 H1 H2
    refine ⟨TT.byte H0 H1 H2, ?_⟩
    omega
  · intro x a b i d l1 h1 u m l2 h2 v lo hi p q w H0 H1 H2 H3 H4 G5 G6 H7 H8 H9
    obtain ⟨H5, ih5⟩ := G5
    obtain ⟨H6, ih6⟩ := G6
    refine ⟨TT.expr H0 H1 H2 H3 H4 H5 H6 H7 H8 H9, ?_⟩
    omega
  · intro x a d w1 l1 h1 p1 q1 u v lo hi p q w H0 H1 G2 H3 H4 H5
    obtain ⟨H2, ih2⟩ := G2
    refine ⟨TT.ife H0 H1 H2 H3 H4 H5, ?_⟩
    omega
  · intro x c i u lo hi p q d H0 H1 H2 H3 H4 H5 H6 H7
    refine ⟨TT.part H0 H1 H2 H3 H4 H5 H6 H7, ?_⟩
    omega
  · intro x c i u b d2 w2 l1 h1 p1 q1 v w lo hi p q d H0 H1 H2 H3 H4 H5 H6 G7 H8 H9 H10 H11
    obtain ⟨H7, ih7⟩ := G7
    refine ⟨TT.part2 H0 H1 H2 H3 H4 H5 H6 H7 H8 H9 H10 H11, ?_⟩
    omega
  · intro x c i lo hi p q d u H0 H1 H2 H3 H4 H5
    refine ⟨TT.sup H0 H1 H2 H3 H4 H5, ?_⟩
    omega
  · intro x a b d l1 h1 u m w2 l2 h2 p1 q1 v lo hi p q w H0 H1 H2 G3 G4 H5 H6 H7 H8
    obtain ⟨H3, ih3⟩ := G3
    obtain ⟨H4, ih4⟩ := G4
    refine ⟨TT.br H0 H1 H2 H3 H4 H5 H6 H7 H8, ?_⟩
    omega
  · intro lo hi d u H0
    refine ⟨TT.co0 H0, ?_⟩
    omega
  · intro x d lo hi u v G0
    obtain ⟨H0, ih0⟩ := G0
    refine ⟨TT.co1 H0, ?_⟩
    omega
  · intro x d lo hi u v G0
    obtain ⟨H0, ih0⟩ := G0
    refine ⟨TT.c45 H0, ?_⟩
    omega
  · intro x d lo hi u v G0
    obtain ⟨H0, ih0⟩ := G0
    refine ⟨TT.c56 H0, ?_⟩
    omega
  · intro x a nx d l1 h1 u m l2 h2 v lo hi H0 H1 H2 H3 G4 G5 H6 H7
    obtain ⟨H4, ih4⟩ := G4
    obtain ⟨H5, ih5⟩ := G5
    refine ⟨TT.eith H0 H1 H2 H3 H4 H5 H6 H7, ?_⟩
    omega
  · intro x a nx d l1 h1 u m l2 h2 v lo hi H0 H1 H2 H3 G4 G5 H6 H7
    obtain ⟨H4, ih4⟩ := G4
    obtain ⟨H5, ih5⟩ := G5
    refine ⟨TT.both H0 H1 H2 H3 H4 H5 H6 H7, ?_⟩
    omega
  · intro x a d l1 h1 u v lo hi H0 H1 G2 H3
    obtain ⟨H2, ih2⟩ := G2
    refine ⟨TT.not H0 H1 H2 H3, ?_⟩
    omega
  · intro x a d l1 h1 u v lo hi H0 H1 G2 H3
    obtain ⟨H2, ih2⟩ := G2
    refine ⟨TT.clk H0 H1 H2 H3, ?_⟩
    omega
  · intro x a d l1 h1 u v lo hi H0 H1 G2 H3
    obtain ⟨H2, ih2⟩ := G2
    refine ⟨TT.ask H0 H1 H2 H3, ?_⟩
    omega
  · intro x a b c d l1 h1 u v lo hi H0 H1 H2 H3 H4 G5 H6
    obtain ⟨H5, ih5⟩ := G5
    refine ⟨TT.ent H0 H1 H2 H3 H4 H5 H6, ?_⟩
    omega
  · intro x a b lo hi d u H0 H1 H2 H3 H4
    refine ⟨TT.vstr H0 H1 H2 H3 H4, ?_⟩
    omega
  · intro x k lo hi d u H0 H1 H2
    refine ⟨TT.vtru H0 H1 H2, ?_⟩
    omega
  · intro x d lo hi u v G0
    obtain ⟨H0, ih0⟩ := G0
    refine ⟨TT.vsub H0, ?_⟩
    omega
theorem TT.fr {t' : Nat → Int → Int} {Z' : Int → Int → Prop} {t : Nat → Int → Int} {Z : Int → Int → Prop} {S : Nat} {x y d w lo hi p q u v : Int} (h : TT t Z S x y d w lo hi p q u v) (hf : ∀ f i, (f < 6 ∧ (lo ≤ i ∧ i < hi ∨ p ≤ i ∧ i < q) ∨ f = 31 ∧ u ≤ i ∧ i < v) → t' f i = t f i) (hZ : ∀ s n, s ≠ 0 → Z s n → Z' s n) : TT t' Z' S x y d w lo hi p q u v := by
  refine (h (fun S x y d w lo hi p q u v => TT t Z S x y d w lo hi p q u v ∧ ((∀ f i, (f < 6 ∧ (lo ≤ i ∧ i < hi ∨ p ≤ i ∧ i < q) ∨ f = 31 ∧ u ≤ i ∧ i < v) → t' f i = t f i) → TT t' Z' S x y d w lo hi p q u v)) ⟨?_, ?_, ?_, ?_, ?_, ?_, ?_, ?_, ?_, ?_, ?_, ?_, ?_, ?_, ?_, ?_, ?_, ?_, ?_, ?_, ?_, ?_, ?_, ?_, ?_, ?_, ?_, ?_, ?_, ?_, ?_, ?_, ?_, ?_, ?_, ?_, ?_, ?_, ?_, ?_, ?_, ?_, ?_, ?_, ?_, ?_, ?_, ?_, ?_, ?_⟩).2 hf
  · intro S lo hi p q x d u H0 H1
    refine ⟨TT.nil H0 H1, ?_⟩
    intro hf; exact TT.nil H0 H1
  · intro S x nx d w1 l1 h1 p1 q1 u m y w2 l2 h2 p2 q2 v lo hi p q w H0 H1 H2 G3 G4 H5 H6 H7 H8
    obtain ⟨H3, ih3⟩ := G3
    obtain ⟨H4, ih4⟩ := G4
    refine ⟨TT.cons H0 H1 H2 H3 H4 H5 H6 H7 H8, ?_⟩
    intro hf; exact TT.cons H0 H1 ((hf _ _ (by omega)).trans H2) (ih3 (fun f i hi => hf f i (by omega))) (ih4 (fun f i hi => hf f i (by omega))) H5 H6 H7 H8
  · intro d x a b c l1 h1 u u1 l2 h2 u2 l3 h3 v lo hi H0 H1 H2 H3 H4 G5 G6 G7 H8 H9
    obtain ⟨H5, ih5⟩ := G5
    obtain ⟨H6, ih6⟩ := G6
    obtain ⟨H7, ih7⟩ := G7
    refine ⟨TT.item H0 H1 H2 H3 H4 H5 H6 H7 H8 H9, ?_⟩
    intro hf; exact TT.item H0 ((hf _ _ (by omega)).trans H1) ((hf _ _ (by omega)).trans H2) ((hf _ _ (by omega)).trans H3) ((hf _ _ (by omega)).trans H4) (ih5 (fun f i hi => hf f i (by omega))) (ih6 (fun f i hi => hf f i (by omega))) (ih7 (fun f i hi => hf f i (by omega))) H8 H9
  · intro x d lo hi u v G0
    obtain ⟨H0, ih0⟩ := G0
    refine ⟨TT.zone H0, ?_⟩
    intro hf; exact TT.zone (ih0 (fun f i hi => hf f i (by omega)))
  · intro d x z a s n l1 h1 u m l2 h2 v lo hi H0 H1 H2 H3 H4 H5 H6 H7 G8 G9 H10 H11 H12 H13
    obtain ⟨H8, ih8⟩ := G8
    obtain ⟨H9, ih9⟩ := G9
    refine ⟨TT.zip H0 H1 H2 H3 H4 H5 H6 H7 H8 H9 H10 H11 H12 H13, ?_⟩
    intro hf; exact TT.zip H0 ((hf _ _ (by omega)).trans H1) ((hf _ _ (by omega)).trans H2) ((hf _ _ (by omega)).trans H3) ((hf _ _ (by omega)).trans H4) ((hf _ _ (by omega)).trans H5) ((hf _ _ (by omega)).trans H6) ((hf _ _ (by omega)).trans H7) (ih8 (fun f i hi => hf f i (by omega))) (ih9 (fun f i hi => hf f i (by omega))) H10 (hZ _ _ H10 H11) H12 H13
  · intro x a b lo hi d u H0 H1 H2 H3 H4
    refine ⟨TT.str H0 H1 H2 H3 H4, ?_⟩
    intro hf; exact TT.str ((hf _ _ (by omega)).trans H0) ((hf _ _ (by omega)).trans H1) ((hf _ _ (by omega)).trans H2) H3 H4
  · intro x k lo hi d u H0 H1 H2
    refine ⟨TT.tru H0 H1 H2, ?_⟩
    intro hf; exact TT.tru ((hf _ _ (by omega)).trans H0) H1 H2
  · intro x d lo hi u v G0
    obtain ⟨H0, ih0⟩ := G0
    refine ⟨TT.psub H0, ?_⟩
    intro hf; exact TT.psub (ih0 (fun f i hi => hf f i (by omega)))
  · intro x a d l1 h1 u v lo hi H0 H1 G2 H3
    obtain ⟨H2, ih2⟩ := G2
    refine ⟨TT.row H0 H1 H2 H3, ?_⟩
    intro hf; exact TT.row ((hf _ _ (by omega)).trans H0) ((hf _ _ (by omega)).trans H1) (ih2 (fun f i hi => hf f i (by omega))) H3
  · intro x lo hi d u H0 H1
    refine ⟨TT.name H0 H1, ?_⟩
    intro hf; exact TT.name ((hf _ _ (by omega)).trans H0) H1
  · intro x a d l1 h1 u v lo hi H0 H1 G2 H3
    obtain ⟨H2, ih2⟩ := G2
    refine ⟨TT.call H0 H1 H2 H3, ?_⟩
    intro hf; exact TT.call ((hf _ _ (by omega)).trans H0) ((hf _ _ (by omega)).trans H1) (ih2 (fun f i hi => hf f i (by omega))) H3
  · intro x a b d l1 h1 u m l2 h2 v lo hi H0 H1 H2 G3 G4 H5 H6
    obtain ⟨H3, ih3⟩ := G3
    obtain ⟨H4, ih4⟩ := G4
    refine ⟨TT.byt H0 H1 H2 H3 H4 H5 H6, ?_⟩
    intro hf; exact TT.byt ((hf _ _ (by omega)).trans H0) ((hf _ _ (by omega)).trans H1) ((hf _ _ (by omega)).trans H2) (ih3 (fun f i hi => hf f i (by omega))) (ih4 (fun f i hi => hf f i (by omega))) H5 H6
  · intro x k a d l1 h1 u v lo hi H0 H1 H2 H3 G4 H5
    obtain ⟨H4, ih4⟩ := G4
    refine ⟨TT.func H0 H1 H2 H3 H4 H5, ?_⟩
    intro hf; exact TT.func ((hf _ _ (by omega)).trans H0) ((hf _ _ (by omega)).trans H1) H2 ((hf _ _ (by omega)).trans H3) (ih4 (fun f i hi => hf f i (by omega))) H5
  · intro x a d l1 h1 u v lo hi H0 H1 G2 H3
    obtain ⟨H2, ih2⟩ := G2
    refine ⟨TT.word H0 H1 H2 H3, ?_⟩
    intro hf; exact TT.word ((hf _ _ (by omega)).trans H0) ((hf _ _ (by omega)).trans H1) (ih2 (fun f i hi => hf f i (by omega))) H3
  · intro x a lo hi d u H0 H1 H2 H3
    refine ⟨TT.pt H0 H1 H2 H3, ?_⟩
    intro hf; exact TT.pt ((hf _ _ (by omega)).trans H0) ((hf _ _ (by omega)).trans H1) H2 H3
  · intro x a d l1 h1 u v lo hi H0 H1 G2 H3
    obtain ⟨H2, ih2⟩ := G2
    refine ⟨TT.ptby H0 H1 H2 H3, ?_⟩
    intro hf; exact TT.ptby ((hf _ _ (by omega)).trans H0) ((hf _ _ (by omega)).trans H1) (ih2 (fun f i hi => hf f i (by omega))) H3
  · intro x a nx d l1 h1 u m l2 h2 v lo hi H0 H1 H2 H3 G4 G5 H6 H7
    obtain ⟨H4, ih4⟩ := G4
    obtain ⟨H5, ih5⟩ := G5
    refine ⟨TT.gp H0 H1 H2 H3 H4 H5 H6 H7, ?_⟩
    intro hf; exact TT.gp ((hf _ _ (by omega)).trans H0) ((hf _ _ (by omega)).trans H1) H2 ((hf _ _ (by omega)).trans H3) (ih4 (fun f i hi => hf f i (by omega))) (ih5 (fun f i hi => hf f i (by omega))) H6 H7
  · intro x a d l1 h1 u v lo hi H0 H1 G2 H3
    obtain ⟨H2, ih2⟩ := G2
    refine ⟨TT.apc H0 H1 H2 H3, ?_⟩
    intro hf; exact TT.apc ((hf _ _ (by omega)).trans H0) ((hf _ _ (by omega)).trans H1) (ih2 (fun f i hi => hf f i (by omega))) H3
  · intro x a b d l1 h1 u m l2 h2 v lo hi H0 H1 H2 G3 G4 H5 H6
    obtain ⟨H3, ih3⟩ := G3
    obtain ⟨H4, ih4⟩ := G4
    refine ⟨TT.apb H0 H1 H2 H3 H4 H5 H6, ?_⟩
    intro hf; exact TT.apb ((hf _ _ (by omega)).trans H0) ((hf _ _ (by omega)).trans H1) ((hf _ _ (by omega)).trans H2) (ih3 (fun f i hi => hf f i (by omega))) (ih4 (fun f i hi => hf f i (by omega))) H5 H6
  · intro x a d l1 h1 u v lo hi H0 H1 G2 H3
    obtain ⟨H2, ih2⟩ := G2
    refine ⟨TT.aps H0 H1 H2 H3, ?_⟩
    intro hf; exact TT.aps ((hf _ _ (by omega)).trans H0) ((hf _ _ (by omega)).trans H1) (ih2 (fun f i hi => hf f i (by omega))) H3
  · intro x a d l1 h1 u v lo hi H0 H1 G2 H3
    obtain ⟨H2, ih2⟩ := G2
    refine ⟨TT.giv H0 H1 H2 H3, ?_⟩
    intro hf; exact TT.giv ((hf _ _ (by omega)).trans H0) ((hf _ _ (by omega)).trans H1) (ih2 (fun f i hi => hf f i (by omega))) H3
  · intro x a d l1 h1 u v lo hi H0 H1 G2 H3
    obtain ⟨H2, ih2⟩ := G2
    refine ⟨TT.nam H0 H1 H2 H3, ?_⟩
    intro hf; exact TT.nam ((hf _ _ (by omega)).trans H0) ((hf _ _ (by omega)).trans H1) (ih2 (fun f i hi => hf f i (by omega))) H3
  · intro x lo hi d u H0 H1 H2
    refine ⟨TT.lk0 H0 H1 H2, ?_⟩
    intro hf; exact TT.lk0 ((hf _ _ (by omega)).trans H0) ((hf _ _ (by omega)).trans H1) H2
  · intro x a d l1 h1 u v lo hi H0 H1 G2 H3
    obtain ⟨H2, ih2⟩ := G2
    refine ⟨TT.lk H0 H1 H2 H3, ?_⟩
    intro hf; exact TT.lk ((hf _ _ (by omega)).trans H0) ((hf _ _ (by omega)).trans H1) (ih2 (fun f i hi => hf f i (by omega))) H3
  · intro x a lo hi d u H0 H1 H2 H3 H4
    refine ⟨TT.op0 H0 H1 H2 H3 H4, ?_⟩
    intro hf; exact TT.op0 ((hf _ _ (by omega)).trans H0) ((hf _ _ (by omega)).trans H1) ((hf _ _ (by omega)).trans H2) H3 H4
  · intro x k a d l1 h1 u v lo hi H0 H1 H2 H3 G4 H5
    obtain ⟨H4, ih4⟩ := G4
    refine ⟨TT.op H0 H1 H2 H3 H4 H5, ?_⟩
    intro hf; exact TT.op ((hf _ _ (by omega)).trans H0) ((hf _ _ (by omega)).trans H1) H2 ((hf _ _ (by omega)).trans H3) (ih4 (fun f i hi => hf f i (by omega))) H5
  · intro x a b lo hi d u H0 H1 H2 H3 H4 H5
    refine ⟨TT.pm H0 H1 H2 H3 H4 H5, ?_⟩
    intro hf; exact TT.pm ((hf _ _ (by omega)).trans H0) ((hf _ _ (by omega)).trans H1) H2 ((hf _ _ (by omega)).trans H3) H4 H5
  · intro x a b d l1 h1 u v lo hi H0 H1 H2 H3 G4 H5
    obtain ⟨H4, ih4⟩ := G4
    refine ⟨TT.pmv H0 H1 H2 H3 H4 H5, ?_⟩
    intro hf; exact TT.pmv ((hf _ _ (by omega)).trans H0) ((hf _ _ (by omega)).trans H1) H2 ((hf _ _ (by omega)).trans H3) (ih4 (fun f i hi => hf f i (by omega))) H5
  · intro x a b c d l1 h1 u m d2 w2 l2 h2 v lo hi H0 H1 H2 H3 H4 G5 G6 H7 H8 H9
    obtain ⟨H5, ih5⟩ := G5
    obtain ⟨H6, ih6⟩ := G6
    refine ⟨TT.subn H0 H1 H2 H3 H4 H5 H6 H7 H8 H9, ?_⟩
    intro hf; exact TT.subn ((hf _ _ (by omega)).trans H0) ((hf _ _ (by omega)).trans H1) ((hf _ _ (by omega)).trans H2) ((hf _ _ (by omega)).trans H3) H4 (ih5 (fun f i hi => hf f i (by omega))) (ih6 (fun f i hi => hf f i (by omega))) H7 H8 H9
  · intro x a d w l1 h1 p1 q1 u v lo hi p q H0 H1 G2 H3 H4
    obtain ⟨H2, ih2⟩ := G2
    refine ⟨TT.txt H0 H1 H2 H3 H4, ?_⟩
    intro hf; exact TT.txt ((hf _ _ (by omega)).trans H0) ((hf _ _ (by omega)).trans H1) (ih2 (fun f i hi => hf f i (by omega))) H3 H4
  · intro x k p q lo hi d u H0 H1 H2
    refine ⟨TT.byte H0 H1 H2, ?_⟩
    intro hf; exact TT.byte ((hf _ _ (by omega)).trans H0) H1 H2
  · intro x a b i d l1 h1 u m l2 h2 v lo hi p q w H0 H1 H2 H3 H4 G5 G6 H7 H8 H9
    obtain ⟨H5, ih5⟩ := G5
    obtain ⟨H6, ih6⟩ := G6
    refine ⟨TT.expr H0 H1 H2 H3 H4 H5 H6 H7 H8 H9, ?_⟩
    intro hf; exact TT.expr ((hf _ _ (by omega)).trans H0) ((hf _ _ (by omega)).trans H1) ((hf _ _ (by omega)).trans H2) ((hf _ _ (by omega)).trans H3) H4 (ih5 (fun f i hi => hf f i (by omega))) (ih6 (fun f i hi => hf f i (by omega))) H7 H8 H9
  · intro x a d w1 l1 h1 p1 q1 u v lo hi p q w H0 H1 G2 H3 H4 H5
    obtain ⟨H2, ih2⟩ := G2
    refine ⟨TT.ife H0 H1 H2 H3 H4 H5, ?_⟩
    intro hf; exact TT.ife ((hf _ _ (by omega)).trans H0) ((hf _ _ (by omega)).trans H1) (ih2 (fun f i hi => hf f i (by omega))) H3 H4 H5
  · intro x c i u lo hi p q d H0 H1 H2 H3 H4 H5 H6 H7
    refine ⟨TT.part H0 H1 H2 H3 H4 H5 H6 H7, ?_⟩
    intro hf; exact TT.part ((hf _ _ (by omega)).trans H0) ((hf _ _ (by omega)).trans H1) ((hf _ _ (by omega)).trans H2) H3 H4 ((hf _ _ (by omega)).trans H5) ((hf _ _ (by omega)).trans H6) H7
  · intro x c i u b d2 w2 l1 h1 p1 q1 v w lo hi p q d H0 H1 H2 H3 H4 H5 H6 G7 H8 H9 H10 H11
    obtain ⟨H7, ih7⟩ := G7
    refine ⟨TT.part2 H0 H1 H2 H3 H4 H5 H6 H7 H8 H9 H10 H11, ?_⟩
    intro hf; exact TT.part2 ((hf _ _ (by omega)).trans H0) ((hf _ _ (by omega)).trans H1) ((hf _ _ (by omega)).trans H2) H3 H4 ((hf _ _ (by omega)).trans H5) ((hf _ _ (by omega)).trans H6) (ih7 (fun f i hi => hf f i (by omega))) H8 H9 H10 H11
  · intro x c i lo hi p q d u H0 H1 H2 H3 H4 H5
    refine ⟨TT.sup H0 H1 H2 H3 H4 H5, ?_⟩
    intro hf; exact TT.sup ((hf _ _ (by omega)).trans H0) ((hf _ _ (by omega)).trans H1) ((hf _ _ (by omega)).trans H2) H3 H4 H5
  · intro x a b d l1 h1 u m w2 l2 h2 p1 q1 v lo hi p q w H0 H1 H2 G3 G4 H5 H6 H7 H8
    obtain ⟨H3, ih3⟩ := G3
    obtain ⟨H4, ih4⟩ := G4
    refine ⟨TT.br H0 H1 H2 H3 H4 H5 H6 H7 H8, ?_⟩
    intro hf; exact TT.br ((hf _ _ (by omega)).trans H0) ((hf _ _ (by omega)).trans H1) ((hf _ _ (by omega)).trans H2) (ih3 (fun f i hi => hf f i (by omega))) (ih4 (fun f i hi => hf f i (by omega))) H5 H6 H7 H8
  · intro lo hi d u H0
    refine ⟨TT.co0 H0, ?_⟩
    intro hf; exact TT.co0 H0
  · intro x d lo hi u v G0
    obtain ⟨H0, ih0⟩ := G0
    refine ⟨TT.co1 H0, ?_⟩
    intro hf; exact TT.co1 (ih0 (fun f i hi => hf f i (by omega)))
  · intro x d lo hi u v G0
    obtain ⟨H0, ih0⟩ := G0
    refine ⟨TT.c45 H0, ?_⟩
    intro hf; exact TT.c45 (ih0 (fun f i hi => hf f i (by omega)))
  · intro x d lo hi u v G0
    obtain ⟨H0, ih0⟩ := G0
    refine ⟨TT.c56 H0, ?_⟩
    intro hf; exact TT.c56 (ih0 (fun f i hi => hf f i (by omega)))
  · intro x a nx d l1 h1 u m l2 h2 v lo hi H0 H1 H2 H3 G4 G5 H6 H7
    obtain ⟨H4, ih4⟩ := G4
    obtain ⟨H5, ih5⟩ := G5
    refine ⟨TT.eith H0 H1 H2 H3 H4 H5 H6 H7, ?_⟩
    intro hf; exact TT.eith ((hf _ _ (by omega)).trans H0) ((hf _ _ (by omega)).trans H1) H2 ((hf _ _ (by omega)).trans H3) (ih4 (fun f i hi => hf f i (by omega))) (ih5 (fun f i hi => hf f i (by omega))) H6 H7
  · intro x a nx d l1 h1 u m l2 h2 v lo hi H0 H1 H2 H3 G4 G5 H6 H7
    obtain ⟨H4, ih4⟩ := G4
    obtain ⟨H5, ih5⟩ := G5
    refine ⟨TT.both H0 H1 H2 H3 H4 H5 H6 H7, ?_⟩
    intro hf; exact TT.both ((hf _ _ (by omega)).trans H0) ((hf _ _ (by omega)).trans H1) H2 ((hf _ _ (by omega)).trans H3) (ih4 (fun f i hi => hf f i (by omega))) (ih5 (fun f i hi => hf f i (by omega))) H6 H7
  · intro x a d l1 h1 u v lo hi H0 H1 G2 H3
    obtain ⟨H2, ih2⟩ := G2
    refine ⟨TT.not H0 H1 H2 H3, ?_⟩
    intro hf; exact TT.not ((hf _ _ (by omega)).trans H0) ((hf _ _ (by omega)).trans H1) (ih2 (fun f i hi => hf f i (by omega))) H3
  · intro x a d l1 h1 u v lo hi H0 H1 G2 H3
    obtain ⟨H2, ih2⟩ := G2
    refine ⟨TT.clk H0 H1 H2 H3, ?_⟩
    intro hf; exact TT.clk ((hf _ _ (by omega)).trans H0) ((hf _ _ (by omega)).trans H1) (ih2 (fun f i hi => hf f i (by omega))) H3
  · intro x a d l1 h1 u v lo hi H0 H1 G2 H3
    obtain ⟨H2, ih2⟩ := G2
    refine ⟨TT.ask H0 H1 H2 H3, ?_⟩
    intro hf; exact TT.ask ((hf _ _ (by omega)).trans H0) ((hf _ _ (by omega)).trans H1) (ih2 (fun f i hi => hf f i (by omega))) H3
  · intro x a b c d l1 h1 u v lo hi H0 H1 H2 H3 H4 G5 H6
    obtain ⟨H5, ih5⟩ := G5
    refine ⟨TT.ent H0 H1 H2 H3 H4 H5 H6, ?_⟩
    intro hf; exact TT.ent ((hf _ _ (by omega)).trans H0) ((hf _ _ (by omega)).trans H1) ((hf _ _ (by omega)).trans H2) H3 ((hf _ _ (by omega)).trans H4) (ih5 (fun f i hi => hf f i (by omega))) H6
  · intro x a b lo hi d u H0 H1 H2 H3 H4
    refine ⟨TT.vstr H0 H1 H2 H3 H4, ?_⟩
    intro hf; exact TT.vstr ((hf _ _ (by omega)).trans H0) ((hf _ _ (by omega)).trans H1) ((hf _ _ (by omega)).trans H2) H3 H4
  · intro x k lo hi d u H0 H1 H2
    refine ⟨TT.vtru H0 H1 H2, ?_⟩
    intro hf; exact TT.vtru ((hf _ _ (by omega)).trans H0) H1 H2
  · intro x d lo hi u v G0
    obtain ⟨H0, ih0⟩ := G0
    refine ⟨TT.vsub H0, ?_⟩
    intro hf; exact TT.vsub (ih0 (fun f i hi => hf f i (by omega)))
theorem TT.mono {t : Nat → Int → Int} {Z : Int → Int → Prop} {S : Nat} {x y d w lo hi p q u v : Int} (h : TT t Z S x y d w lo hi p q u v) {lo' hi' p' q' : Int} (a : lo' ≤ lo) (b : hi ≤ hi') (c : p' ≤ p) (e : q ≤ q') (g : ((p' = p ∧ q' = q) ∨ 11 ≤ S ∧ S ≤ 13 ∨ 112 ≤ S ∧ S ≤ 113)) : TT t Z S x y d w lo' hi' p' q' u v := by
  refine (h (fun S x y d w lo hi p q u v => TT t Z S x y d w lo hi p q u v ∧ (∀ lo' hi' p' q' : Int, lo' ≤ lo → hi ≤ hi' → p' ≤ p → q ≤ q' → ((p' = p ∧ q' = q) ∨ 11 ≤ S ∧ S ≤ 13 ∨ 112 ≤ S ∧ S ≤ 113) → TT t Z S x y d w lo' hi' p' q' u v)) ⟨?_, ?_, ?_, ?_, ?_, ?_, ?_, ?_, ?_, ?_, ?_, ?_, ?_, ?_, ?_, ?_, ?_, ?_, ?_, ?_, ?_, ?_, ?_, ?_, ?_, ?_, ?_, ?_, ?_, ?_, ?_, ?_, ?_, ?_, ?_, ?_, ?_, ?_, ?_, ?_, ?_, ?_, ?_, ?_, ?_, ?_, ?_, ?_, ?_, ?_⟩).2 lo' hi' p' q' a b c e g
  · intro S lo hi p q x d u H0 H1
    refine ⟨TT.nil H0 H1, ?_⟩
    intro lo' hi' p' q' a b c e g
    exact TT.nil H0 (by omega)
  · intro S x nx d w1 l1 h1 p1 q1 u m y w2 l2 h2 p2 q2 v lo hi p q w H0 H1 H2 G3 G4 H5 H6 H7 H8
    obtain ⟨H3, ih3⟩ := G3
    obtain ⟨H4, ih4⟩ := G4
    refine ⟨TT.cons H0 H1 H2 H3 H4 H5 H6 H7 H8, ?_⟩
    intro lo' hi' p' q' a b c e g; exact TT.cons H0 H1 H2 H3 H4 (by omega) H6 H7 H8
  · intro d x a b c l1 h1 u u1 l2 h2 u2 l3 h3 v lo hi H0 H1 H2 H3 H4 G5 G6 G7 H8 H9
    obtain ⟨H5, ih5⟩ := G5
    obtain ⟨H6, ih6⟩ := G6
    obtain ⟨H7, ih7⟩ := G7
    refine ⟨TT.item H0 H1 H2 H3 H4 H5 H6 H7 H8 H9, ?_⟩
    intro lo' hi' p' q' a b c e g
    obtain ⟨rfl, rfl⟩ : p' = 0 ∧ q' = 0 := by omega
    exact TT.item H0 H1 H2 H3 H4 H5 H6 H7 (by omega) H9
  · intro x d lo hi u v G0
    obtain ⟨H0, ih0⟩ := G0
    refine ⟨TT.zone H0, ?_⟩
    intro lo' hi' p' q' a b c e g
    obtain ⟨rfl, rfl⟩ : p' = 0 ∧ q' = 0 := by omega
    exact TT.zone (ih0 _ _ _ _ (by omega) (by omega) (by omega) (by omega) (by omega))
  · intro d x z a s n l1 h1 u m l2 h2 v lo hi H0 H1 H2 H3 H4 H5 H6 H7 G8 G9 H10 H11 H12 H13
    obtain ⟨H8, ih8⟩ := G8
    obtain ⟨H9, ih9⟩ := G9
    refine ⟨TT.zip H0 H1 H2 H3 H4 H5 H6 H7 H8 H9 H10 H11 H12 H13, ?_⟩
    intro lo' hi' p' q' a b c e g
    obtain ⟨rfl, rfl⟩ : p' = 0 ∧ q' = 0 := by omega
    exact TT.zip H0 H1 H2 H3 H4 H5 H6 H7 H8 H9 H10 H11 (by omega) H13
  · intro x a b lo hi d u H0 H1 H2 H3 H4
    refine ⟨TT.str H0 H1 H2 H3 H4, ?_⟩
    intro lo' hi' p' q' a b c e g
    obtain ⟨rfl, rfl⟩ : p' = 0 ∧ q' = 0 := by omega
    exact TT.str H0 H1 H2 H3 (by omega)
  · intro x k lo hi d u H0 H1 H2
    refine ⟨TT.tru H0 H1 H2, ?_⟩
    intro lo' hi' p' q' a b c e g
    obtain ⟨rfl, rfl⟩ : p' = 0 ∧ q' = 0 := by omega
    exact TT.tru H0 H1 (by omega)
  · intro x d lo hi u v G0
    obtain ⟨H0, ih0⟩ := G0
    refine ⟨TT.psub H0, ?_⟩
    intro lo' hi' p' q' a b c e g
    obtain ⟨rfl, rfl⟩ : p' = 0 ∧ q' = 0 := by omega
    exact TT.psub (ih0 _ _ _ _ (by omega) (by omega) (by omega) (by omega) (by omega))
  · intro x a d l1 h1 u v lo hi H0 H1 G2 H3
    obtain ⟨H2, ih2⟩ := G2
    refine ⟨TT.row H0 H1 H2 H3, ?_⟩
    intro lo' hi' p' q' a b c e g
    obtain ⟨rfl, rfl⟩ : p' = 0 ∧ q' = 0 := by omega
    exact TT.row H0 H1 H2 (by omega)
  · intro x lo hi d u H0 H1
    refine ⟨TT.name H0 H1, ?_⟩
    intro lo' hi' p' q' a b c e g
    obtain ⟨rfl, rfl⟩ : p' = 0 ∧ q' = 0 := by omega
    exact TT.name H0 (by omega)
  · intro x a d l1 h1 u v lo hi H0 H1 G2 H3
    obtain ⟨H2, ih2⟩ := G2
    refine ⟨TT.call H0 H1 H2 H3, ?_⟩
    intro lo' hi' p' q' a b c e g
    obtain ⟨rfl, rfl⟩ : p' = 0 ∧ q' = 0 := by omega
    exact TT.call H0 H1 H2 (by omega)
  · intro x a b d l1 h1 u m l2 h2 v lo hi H0 H1 H2 G3 G4 H5 H6
    obtain ⟨H3, ih3⟩ := G3
    obtain ⟨H4, ih4⟩ := G4
    refine ⟨TT.byt H0 H1 H2 H3 H4 H5 H6, ?_⟩
    intro lo' hi' p' q' a b c e g
    obtain ⟨rfl, rfl⟩ : p' = 0 ∧ q' = 0 := by omega
    exact TT.byt H0 H1 H2 H3 H4 (by omega) H6
  · intro x k a d l1 h1 u v lo hi H0 H1 H2 H3 G4 H5
    obtain ⟨H4, ih4⟩ := G4
    refine ⟨TT.func H0 H1 H2 H3 H4 H5, ?_⟩
    intro lo' hi' p' q' a b c e g
    obtain ⟨rfl, rfl⟩ : p' = 0 ∧ q' = 0 := by omega
    exact TT.func H0 H1 H2 H3 H4 (by omega)
  · intro x a d l1 h1 u v lo hi H0 H1 G2 H3
    obtain ⟨H2, ih2⟩ := G2
    refine ⟨TT.word H0 H1 H2 H3, ?_⟩
    intro lo' hi' p' q' a b c e g
    obtain ⟨rfl, rfl⟩ : p' = 0 ∧ q' = 0 := by omega
    exact TT.word H0 H1 H2 (by omega)
  · intro x a lo hi d u H0 H1 H2 H3
    refine ⟨TT.pt H0 H1 H2 H3, ?_⟩
    intro lo' hi' p' q' a b c e g
    obtain ⟨rfl, rfl⟩ : p' = 0 ∧ q' = 0 := by omega
    exact TT.pt H0 H1 H2 (by omega)
  · intro x a d l1 h1 u v lo hi H0 H1 G2 H3
    obtain ⟨H2, ih2⟩ := G2
    refine ⟨TT.ptby H0 H1 H2 H3, ?_⟩
    intro lo' hi' p' q' a b c e g
    obtain ⟨rfl, rfl⟩ : p' = 0 ∧ q' = 0 := by omega
    exact TT.ptby H0 H1 H2 (by omega)
  · intro x a nx d l1 h1 u m l2 h2 v lo hi H0 H1 H2 H3 G4 G5 H6 H7
    obtain ⟨H4, ih4⟩ := G4
    obtain ⟨H5, ih5⟩ := G5
    refine ⟨TT.gp H0 H1 H2 H3 H4 H5 H6 H7, ?_⟩
    intro lo' hi' p' q' a b c e g
    obtain ⟨rfl, rfl⟩ : p' = 0 ∧ q' = 0 := by omega
    exact TT.gp H0 H1 H2 H3 H4 H5 (by omega) H7
  · intro x a d l1 h1 u v lo hi H0 H1 G2 H3
    obtain ⟨H2, ih2⟩ := G2
    refine ⟨TT.apc H0 H1 H2 H3, ?_⟩
    intro lo' hi' p' q' a b c e g
    obtain ⟨rfl, rfl⟩ : p' = 0 ∧ q' = 0 := by omega
    exact TT.apc H0 H1 H2 (by omega)
  · intro x a b d l1 h1 u m l2 h2 v lo hi H0 H1 H2 G3 G4 H5 H6
    obtain ⟨H3, ih3⟩ := G3
    obtain ⟨H4, ih4⟩ := G4
    refine ⟨TT.apb H0 H1 H2 H3 H4 H5 H6, ?_⟩
    intro lo' hi' p' q' a b c e g
    obtain ⟨rfl, rfl⟩ : p' = 0 ∧ q' = 0 := by omega
    exact TT.apb H0 H1 H2 H3 H4 (by omega) H6
  · intro x a d l1 h1 u v lo hi H0 H1 G2 H3
    obtain ⟨H2, ih2⟩ := G2
    refine ⟨TT.aps H0 H1 H2 H3, ?_⟩
    intro lo' hi' p' q' a b c e g
    obtain ⟨rfl, rfl⟩ : p' = 0 ∧ q' = 0 := by omega
    exact TT.aps H0 H1 H2 (by omega)
  · intro x a d l1 h1 u v lo hi H0 H1 G2 H3
    obtain ⟨H2, ih2⟩ := G2
    refine ⟨TT.giv H0 H1 H2 H3, ?_⟩
    intro lo' hi' p' q' a b c e g
    obtain ⟨rfl, rfl⟩ : p' = 0 ∧ q' = 0 := by omega
    exact TT.giv H0 H1 H2 (by omega)
  · intro x a d l1 h1 u v lo hi H0 H1 G2 H3
    obtain ⟨H2, ih2⟩ := G2
    refine ⟨TT.nam H0 H1 H2 H3, ?_⟩
    intro lo' hi' p' q' a b c e g
    obtain ⟨rfl, rfl⟩ : p' = 0 ∧ q' = 0 := by omega
    exact TT.nam H0 H1 H2 (by omega)
  · intro x lo hi d u H0 H1 H2
    refine ⟨TT.lk0 H0 H1 H2, ?_⟩
    intro lo' hi' p' q' a b c e g
    obtain ⟨rfl, rfl⟩ : p' = 0 ∧ q' = 0 := by omega
    exact TT.lk0 H0 H1 (by omega)
  · intro x a d l1 h1 u v lo hi H0 H1 G2 H3
    obtain ⟨H2, ih2⟩ := G2
    refine ⟨TT.lk H0 H1 H2 H3, ?_⟩
    intro lo' hi' p' q' a b c e g
    obtain ⟨rfl, rfl⟩ : p' = 0 ∧ q' = 0 := by omega
    exact TT.lk H0 H1 H2 (by omega)
  · intro x a lo hi d u H0 H1 H2 H3 H4
    refine ⟨TT.op0 H0 H1 H2 H3 H4, ?_⟩
    intro lo' hi' p' q' a b c e g
    obtain ⟨rfl, rfl⟩ : p' = 0 ∧ q' = 0 := by omega
    exact TT.op0 H0 H1 H2 H3 (by omega)
  · intro x k a d l1 h1 u v lo hi H0 H1 H2 H3 G4 H5
    obtain ⟨H4, ih4⟩ := G4
    refine ⟨TT.op H0 H1 H2 H3 H4 H5, ?_⟩
    intro lo' hi' p' q' a b c e g
    obtain ⟨rfl, rfl⟩ : p' = 0 ∧ q' = 0 := by omega
    exact TT.op H0 H1 H2 H3 H4 (by omega)
  · intro x a b lo hi d u H0 H1 H2 H3 H4 H5
    refine ⟨TT.pm H0 H1 H2 H3 H4 H5, ?_⟩
    intro lo' hi' p' q' a b c e g
    obtain ⟨rfl, rfl⟩ : p' = 0 ∧ q' = 0 := by omega
    exact TT.pm H0 H1 H2 H3 H4 (by omega)
  · intro x a b d l1 h1 u v lo hi H0 H1 H2 H3 G4 H5
    obtain ⟨H4, ih4⟩ := G4
    refine ⟨TT.pmv H0 H1 H2 H3 H4 H5, ?_⟩
    intro lo' hi' p' q' a b c e g
    obtain ⟨rfl, rfl⟩ : p' = 0 ∧ q' = 0 := by omega
    exact TT.pmv H0 H1 H2 H3 H4 (by omega)
  · intro x a b c d l1 h1 u m d2 w2 l2 h2 v lo hi H0 H1 H2 H3 H4 G5 G6 H7 H8 H9
    obtain ⟨H5, ih5⟩ := G5
    obtain ⟨H6, ih6⟩ := G6
    refine ⟨TT.subn H0 H1 H2 H3 H4 H5 H6 H7 H8 H9, ?_⟩
    intro lo' hi' p' q' a b c e g
    obtain ⟨rfl, rfl⟩ : p' = 0 ∧ q' = 0 := by omega
    exact TT.subn H0 H1 H2 H3 H4 H5 H6 H7 (by omega) H9
  · intro x a d w l1 h1 p1 q1 u v lo hi p q H0 H1 G2 H3 H4
    obtain ⟨H2, ih2⟩ := G2
    refine ⟨TT.txt H0 H1 H2 H3 H4, ?_⟩
    intro lo' hi' p' q' a b c e g
    exact TT.txt H0 H1 H2 (by omega) H4
  · intro x k p q lo hi d u H0 H1 H2
    refine ⟨TT.byte H0 H1 H2, ?_⟩
    intro lo' hi' p' q' a b c e g
    exact TT.byte H0 H1 (by omega)
  · intro x a b i d l1 h1 u m l2 h2 v lo hi p q w H0 H1 H2 H3 H4 G5 G6 H7 H8 H9
    obtain ⟨H5, ih5⟩ := G5
    obtain ⟨H6, ih6⟩ := G6
    refine ⟨TT.expr H0 H1 H2 H3 H4 H5 H6 H7 H8 H9, ?_⟩
    intro lo' hi' p' q' a b c e g
    exact TT.expr H0 H1 H2 H3 H4 H5 H6 (by omega) H8 H9
  · intro x a d w1 l1 h1 p1 q1 u v lo hi p q w H0 H1 G2 H3 H4 H5
    obtain ⟨H2, ih2⟩ := G2
    refine ⟨TT.ife H0 H1 H2 H3 H4 H5, ?_⟩
    intro lo' hi' p' q' a b c e g
    exact TT.ife H0 H1 H2 (by omega) H4 H5
  · intro x c i u lo hi p q d H0 H1 H2 H3 H4 H5 H6 H7
    refine ⟨TT.part H0 H1 H2 H3 H4 H5 H6 H7, ?_⟩
    intro lo' hi' p' q' a b c e g
    exact TT.part H0 H1 H2 H3 H4 H5 H6 (by omega)
  · intro x c i u b d2 w2 l1 h1 p1 q1 v w lo hi p q d H0 H1 H2 H3 H4 H5 H6 G7 H8 H9 H10 H11
    obtain ⟨H7, ih7⟩ := G7
    refine ⟨TT.part2 H0 H1 H2 H3 H4 H5 H6 H7 H8 H9 H10 H11, ?_⟩
    intro lo' hi' p' q' a b c e g
    exact TT.part2 H0 H1 H2 H3 H4 H5 H6 H7 H8 (by omega) (by omega) H11
  · intro x c i lo hi p q d u H0 H1 H2 H3 H4 H5
    refine ⟨TT.sup H0 H1 H2 H3 H4 H5, ?_⟩
    intro lo' hi' p' q' a b c e g
    exact TT.sup H0 H1 H2 H3 H4 (by omega)
  · intro x a b d l1 h1 u m w2 l2 h2 p1 q1 v lo hi p q w H0 H1 H2 G3 G4 H5 H6 H7 H8
    obtain ⟨H3, ih3⟩ := G3
    obtain ⟨H4, ih4⟩ := G4
    refine ⟨TT.br H0 H1 H2 H3 H4 H5 H6 H7 H8, ?_⟩
    intro lo' hi' p' q' a b c e g
    exact TT.br H0 H1 H2 H3 H4 (by omega) H6 H7 H8
  · intro lo hi d u H0
    refine ⟨TT.co0 H0, ?_⟩
    intro lo' hi' p' q' a b c e g
    obtain ⟨rfl, rfl⟩ : p' = 0 ∧ q' = 0 := by omega
    exact TT.co0 (by omega)
  · intro x d lo hi u v G0
    obtain ⟨H0, ih0⟩ := G0
    refine ⟨TT.co1 H0, ?_⟩
    intro lo' hi' p' q' a b c e g
    obtain ⟨rfl, rfl⟩ : p' = 0 ∧ q' = 0 := by omega
    exact TT.co1 (ih0 _ _ _ _ (by omega) (by omega) (by omega) (by omega) (by omega))
  · intro x d lo hi u v G0
    obtain ⟨H0, ih0⟩ := G0
    refine ⟨TT.c45 H0, ?_⟩
    intro lo' hi' p' q' a b c e g
    obtain ⟨rfl, rfl⟩ : p' = 0 ∧ q' = 0 := by omega
    exact TT.c45 (ih0 _ _ _ _ (by omega) (by omega) (by omega) (by omega) (by omega))
  · intro x d lo hi u v G0
    obtain ⟨H0, ih0⟩ := G0
    refine ⟨TT.c56 H0, ?_⟩
    intro lo' hi' p' q' a b c e g
    obtain ⟨rfl, rfl⟩ : p' = 0 ∧ q' = 0 := by omega
    exact TT.c56 (ih0 _ _ _ _ (by omega) (by omega) (by omega) (by omega) (by omega))
  · intro x a nx d l1 h1 u m l2 h2 v lo hi H0 H1 H2 H3 G4 G5 H6 H7
    obtain ⟨H4, ih4⟩ := G4
    obtain ⟨H5, ih5⟩ := G5
    refine ⟨TT.eith H0 H1 H2 H3 H4 H5 H6 H7, ?_⟩
    intro lo' hi' p' q' a b c e g
    obtain ⟨rfl, rfl⟩ : p' = 0 ∧ q' = 0 := by omega
    exact TT.eith H0 H1 H2 H3 H4 H5 (by omega) H7
  · intro x a nx d l1 h1 u m l2 h2 v lo hi H0 H1 H2 H3 G4 G5 H6 H7
    obtain ⟨H4, ih4⟩ := G4
    obtain ⟨H5, ih5⟩ := G5
    refine ⟨TT.both H0 H1 H2 H3 H4 H5 H6 H7, ?_⟩
    intro lo' hi' p' q' a b c e g
    obtain ⟨rfl, rfl⟩ : p' = 0 ∧ q' = 0 := by omega
    exact TT.both H0 H1 H2 H3 H4 H5 (by omega) H7
  · intro x a d l1 h1 u v lo hi H0 H1 G2 H3
    obtain ⟨H2, ih2⟩ := G2
    refine ⟨TT.not H0 H1 H2 H3, ?_⟩
    intro lo' hi' p' q' a b c e g
    obtain ⟨rfl, rfl⟩ : p' = 0 ∧ q' = 0 := by omega
    exact TT.not H0 H1 H2 (by omega)
  · intro x a d l1 h1 u v lo hi H0 H1 G2 H3
    obtain ⟨H2, ih2⟩ := G2
    refine ⟨TT.clk H0 H1 H2 H3, ?_⟩
    intro lo' hi' p' q' a b c e g
    obtain ⟨rfl, rfl⟩ : p' = 0 ∧ q' = 0 := by omega
    exact TT.clk H0 H1 H2 (by omega)
  · intro x a d l1 h1 u v lo hi H0 H1 G2 H3
    obtain ⟨H2, ih2⟩ := G2
    refine ⟨TT.ask H0 H1 H2 H3, ?_⟩
    intro lo' hi' p' q' a b c e g
    obtain ⟨rfl, rfl⟩ : p' = 0 ∧ q' = 0 := by omega
    exact TT.ask H0 H1 H2 (by omega)
  · intro x a b c d l1 h1 u v lo hi H0 H1 H2 H3 H4 G5 H6
    obtain ⟨H5, ih5⟩ := G5
    refine ⟨TT.ent H0 H1 H2 H3 H4 H5 H6, ?_⟩
    intro lo' hi' p' q' a b c e g
    obtain ⟨rfl, rfl⟩ : p' = 0 ∧ q' = 0 := by omega
    exact TT.ent H0 H1 H2 H3 H4 H5 (by omega)
  · intro x a b lo hi d u H0 H1 H2 H3 H4
    refine ⟨TT.vstr H0 H1 H2 H3 H4, ?_⟩
    intro lo' hi' p' q' a b c e g
    obtain ⟨rfl, rfl⟩ : p' = 0 ∧ q' = 0 := by omega
    exact TT.vstr H0 H1 H2 H3 (by omega)
  · intro x k lo hi d u H0 H1 H2
    refine ⟨TT.vtru H0 H1 H2, ?_⟩
    intro lo' hi' p' q' a b c e g
    obtain ⟨rfl, rfl⟩ : p' = 0 ∧ q' = 0 := by omega
    exact TT.vtru H0 H1 (by omega)
  · intro x d lo hi u v G0
    obtain ⟨H0, ih0⟩ := G0
    refine ⟨TT.vsub H0, ?_⟩
    intro lo' hi' p' q' a b c e g
    obtain ⟨rfl, rfl⟩ : p' = 0 ∧ q' = 0 := by omega
    exact TT.vsub (ih0 _ _ _ _ (by omega) (by omega) (by omega) (by omega) (by omega))
theorem TT.fr5 {t' : Nat → Int → Int} {t : Nat → Int → Int} {Z : Int → Int → Prop} {S : Nat} {x y d w lo hi p q u v : Int} (h : TT t Z S x y d w lo hi p q u v) (hS : S < 100) (hf : (∀ f i, (f < 6 ∧ (lo ≤ i ∧ i < hi ∨ p ≤ i ∧ i < q) ∨ f = 31 ∧ u ≤ i ∧ i < v) → (f ≠ 5 ∨ i ≠ x) → t' f i = t f i)) : TT t' Z S x y d w lo hi p q u v := by
  refine (h (fun S x y d w lo hi p q u v => TT t Z S x y d w lo hi p q u v ∧ (S < 100 → (∀ f i, (f < 6 ∧ (lo ≤ i ∧ i < hi ∨ p ≤ i ∧ i < q) ∨ f = 31 ∧ u ≤ i ∧ i < v) → (f ≠ 5 ∨ i ≠ x) → t' f i = t f i) → TT t' Z S x y d w lo hi p q u v)) ⟨?_, ?_, ?_, ?_, ?_, ?_, ?_, ?_, ?_, ?_, ?_, ?_, ?_, ?_, ?_, ?_, ?_, ?_, ?_, ?_, ?_, ?_, ?_, ?_, ?_, ?_, ?_, ?_, ?_, ?_, ?_, ?_, ?_, ?_, ?_, ?_, ?_, ?_, ?_, ?_, ?_, ?_, ?_, ?_, ?_, ?_, ?_, ?_, ?_, ?_⟩).2 hS hf
  · intro S lo hi p q x d u H0 H1
    refine ⟨TT.nil H0 H1, ?_⟩
    intro hS; exact absurd H0 (by omega)
  · intro S x nx d w1 l1 h1 p1 q1 u m y w2 l2 h2 p2 q2 v lo hi p q w H0 H1 H2 G3 G4 H5 H6 H7 H8
    obtain ⟨H3, ih3⟩ := G3
    obtain ⟨H4, ih4⟩ := G4
    refine ⟨TT.cons H0 H1 H2 H3 H4 H5 H6 H7 H8, ?_⟩
    intro hS; exact absurd H0 (by omega)
  · intro d x a b c l1 h1 u u1 l2 h2 u2 l3 h3 v lo hi H0 H1 H2 H3 H4 G5 G6 G7 H8 H9
    obtain ⟨H5, ih5⟩ := G5
    obtain ⟨H6, ih6⟩ := G6
    obtain ⟨H7, ih7⟩ := G7
    refine ⟨TT.item H0 H1 H2 H3 H4 H5 H6 H7 H8 H9, ?_⟩
    intro hS hf; exact TT.item H0 ((hf _ _ (by omega) (by omega)).trans H1) ((hf _ _ (by omega) (by omega)).trans H2) ((hf _ _ (by omega) (by omega)).trans H3) ((hf _ _ (by omega) (by omega)).trans H4) (H5.fr (fun f i hi => hf f i (by omega) (by omega)) (fun _ _ _ h => h)) (H6.fr (fun f i hi => hf f i (by omega) (by omega)) (fun _ _ _ h => h)) (H7.fr (fun f i hi => hf f i (by omega) (by omega)) (fun _ _ _ h => h)) H8 H9
  · intro x d lo hi u v G0
    obtain ⟨H0, ih0⟩ := G0
    refine ⟨TT.zone H0, ?_⟩
    intro hS hf; exact TT.zone (ih0 (by omega) hf)
  · intro d x z a s n l1 h1 u m l2 h2 v lo hi H0 H1 H2 H3 H4 H5 H6 H7 G8 G9 H10 H11 H12 H13
    obtain ⟨H8, ih8⟩ := G8
    obtain ⟨H9, ih9⟩ := G9
    refine ⟨TT.zip H0 H1 H2 H3 H4 H5 H6 H7 H8 H9 H10 H11 H12 H13, ?_⟩
    intro hS hf; exact TT.zip H0 ((hf _ _ (by omega) (by omega)).trans H1) ((hf _ _ (by omega) (by omega)).trans H2) ((hf _ _ (by omega) (by omega)).trans H3) ((hf _ _ (by omega) (by omega)).trans H4) ((hf _ _ (by omega) (by omega)).trans H5) ((hf _ _ (by omega) (by omega)).trans H6) ((hf _ _ (by omega) (by omega)).trans H7) (H8.fr (fun f i hi => hf f i (by omega) (by omega)) (fun _ _ _ h => h)) (H9.fr (fun f i hi => hf f i (by omega) (by omega)) (fun _ _ _ h => h)) H10 H11 H12 H13
  · intro x a b lo hi d u H0 H1 H2 H3 H4
    refine ⟨TT.str H0 H1 H2 H3 H4, ?_⟩
    intro hS hf; exact TT.str ((hf _ _ (by omega) (by omega)).trans H0) ((hf _ _ (by omega) (by omega)).trans H1) ((hf _ _ (by omega) (by omega)).trans H2) H3 H4
  · intro x k lo hi d u H0 H1 H2
    refine ⟨TT.tru H0 H1 H2, ?_⟩
    intro hS hf; exact TT.tru ((hf _ _ (by omega) (by omega)).trans H0) H1 H2
  · intro x d lo hi u v G0
    obtain ⟨H0, ih0⟩ := G0
    refine ⟨TT.psub H0, ?_⟩
    intro hS hf; exact TT.psub (ih0 (by omega) hf)
  · intro x a d l1 h1 u v lo hi H0 H1 G2 H3
    obtain ⟨H2, ih2⟩ := G2
    refine ⟨TT.row H0 H1 H2 H3, ?_⟩
    intro hS hf; exact TT.row ((hf _ _ (by omega) (by omega)).trans H0) ((hf _ _ (by omega) (by omega)).trans H1) (H2.fr (fun f i hi => hf f i (by omega) (by omega)) (fun _ _ _ h => h)) H3
  · intro x lo hi d u H0 H1
    refine ⟨TT.name H0 H1, ?_⟩
    intro hS hf; exact TT.name ((hf _ _ (by omega) (by omega)).trans H0) H1
  · intro x a d l1 h1 u v lo hi H0 H1 G2 H3
    obtain ⟨H2, ih2⟩ := G2
    refine ⟨TT.call H0 H1 H2 H3, ?_⟩
    intro hS hf; exact TT.call ((hf _ _ (by omega) (by omega)).trans H0) ((hf _ _ (by omega) (by omega)).trans H1) (H2.fr (fun f i hi => hf f i (by omega) (by omega)) (fun _ _ _ h => h)) H3
  · intro x a b d l1 h1 u m l2 h2 v lo hi H0 H1 H2 G3 G4 H5 H6
    obtain ⟨H3, ih3⟩ := G3
    obtain ⟨H4, ih4⟩ := G4
    refine ⟨TT.byt H0 H1 H2 H3 H4 H5 H6, ?_⟩
    intro hS hf; exact TT.byt ((hf _ _ (by omega) (by omega)).trans H0) ((hf _ _ (by omega) (by omega)).trans H1) ((hf _ _ (by omega) (by omega)).trans H2) (H3.fr (fun f i hi => hf f i (by omega) (by omega)) (fun _ _ _ h => h)) (H4.fr (fun f i hi => hf f i (by omega) (by omega)) (fun _ _ _ h => h)) H5 H6
  · intro x k a d l1 h1 u v lo hi H0 H1 H2 H3 G4 H5
    obtain ⟨H4, ih4⟩ := G4
    refine ⟨TT.func H0 H1 H2 H3 H4 H5, ?_⟩
    intro hS hf; exact TT.func ((hf _ _ (by omega) (by omega)).trans H0) ((hf _ _ (by omega) (by omega)).trans H1) H2 ((hf _ _ (by omega) (by omega)).trans H3) (H4.fr (fun f i hi => hf f i (by omega) (by omega)) (fun _ _ _ h => h)) H5
  · intro x a d l1 h1 u v lo hi H0 H1 G2 H3
    obtain ⟨H2, ih2⟩ := G2
    refine ⟨TT.word H0 H1 H2 H3, ?_⟩
    intro hS hf; exact TT.word ((hf _ _ (by omega) (by omega)).trans H0) ((hf _ _ (by omega) (by omega)).trans H1) (H2.fr (fun f i hi => hf f i (by omega) (by omega)) (fun _ _ _ h => h)) H3
  · intro x a lo hi d u H0 H1 H2 H3
    refine ⟨TT.pt H0 H1 H2 H3, ?_⟩
    intro hS hf; exact TT.pt ((hf _ _ (by omega) (by omega)).trans H0) ((hf _ _ (by omega) (by omega)).trans H1) H2 H3
  · intro x a d l1 h1 u v lo hi H0 H1 G2 H3
    obtain ⟨H2, ih2⟩ := G2
    refine ⟨TT.ptby H0 H1 H2 H3, ?_⟩
    intro hS hf; exact TT.ptby ((hf _ _ (by omega) (by omega)).trans H0) ((hf _ _ (by omega) (by omega)).trans H1) (H2.fr (fun f i hi => hf f i (by omega) (by omega)) (fun _ _ _ h => h)) H3
  · intro x a nx d l1 h1 u m l2 h2 v lo hi H0 H1 H2 H3 G4 G5 H6 H7
    obtain ⟨H4, ih4⟩ := G4
    obtain ⟨H5, ih5⟩ := G5
    refine ⟨TT.gp H0 H1 H2 H3 H4 H5 H6 H7, ?_⟩
    intro hS hf; exact TT.gp ((hf _ _ (by omega) (by omega)).trans H0) ((hf _ _ (by omega) (by omega)).trans H1) H2 ((hf _ _ (by omega) (by omega)).trans H3) (H4.fr (fun f i hi => hf f i (by omega) (by omega)) (fun _ _ _ h => h)) (H5.fr (fun f i hi => hf f i (by omega) (by omega)) (fun _ _ _ h => h)) H6 H7
  · intro x a d l1 h1 u v lo hi H0 H1 G2 H3
    obtain ⟨H2, ih2⟩ := G2
    refine ⟨TT.apc H0 H1 H2 H3, ?_⟩
    intro hS hf; exact TT.apc ((hf _ _ (by omega) (by omega)).trans H0) ((hf _ _ (by omega) (by omega)).trans H1) (H2.fr (fun f i hi => hf f i (by omega) (by omega)) (fun _ _ _ h => h)) H3
  · intro x a b d l1 h1 u m l2 h2 v lo hi H0 H1 H2 G3 G4 H5 H6
    obtain ⟨H3, ih3⟩ := G3
    obtain ⟨H4, ih4⟩ := G4
    refine ⟨TT.apb H0 H1 H2 H3 H4 H5 H6, ?_⟩
    intro hS hf; exact TT.apb ((hf _ _ (by omega) (by omega)).trans H0) ((hf _ _ (by omega) (by omega)).trans H1) ((hf _ _ (by omega) (by omega)).trans H2) (H3.fr (fun f i hi => hf f i (by omega) (by omega)) (fun _ _ _ h => h)) (H4.fr (fun f i hi => hf f i (by omega) (by omega)) (fun _ _ _ h => h)) H5 H6
  · intro x a d l1 h1 u v lo hi H0 H1 G2 H3
    obtain ⟨H2, ih2⟩ := G2
    refine ⟨TT.aps H0 H1 H2 H3, ?_⟩
    intro hS hf; exact TT.aps ((hf _ _ (by omega) (by omega)).trans H0) ((hf _ _ (by omega) (by omega)).trans H1) (H2.fr (fun f i hi => hf f i (by omega) (by omega)) (fun _ _ _ h => h)) H3
  · intro x a d l1 h1 u v lo hi H0 H1 G2 H3
    obtain ⟨H2, ih2⟩ := G2
    refine ⟨TT.giv H0 H1 H2 H3, ?_⟩
    intro hS hf; exact TT.giv ((hf _ _ (by omega) (by omega)).trans H0) ((hf _ _ (by omega) (by omega)).trans H1) (H2.fr (fun f i hi => hf f i (by omega) (by omega)) (fun _ _ _ h => h)) H3
  · intro x a d l1 h1 u v lo hi H0 H1 G2 H3
    obtain ⟨H2, ih2⟩ := G2
    refine ⟨TT.nam H0 H1 H2 H3, ?_⟩
    intro hS hf; exact TT.nam ((hf _ _ (by omega) (by omega)).trans H0) ((hf _ _ (by omega) (by omega)).trans H1) (H2.fr (fun f i hi => hf f i (by omega) (by omega)) (fun _ _ _ h => h)) H3
  · intro x lo hi d u H0 H1 H2
    refine ⟨TT.lk0 H0 H1 H2, ?_⟩
    intro hS hf; exact TT.lk0 ((hf _ _ (by omega) (by omega)).trans H0) ((hf _ _ (by omega) (by omega)).trans H1) H2
  · intro x a d l1 h1 u v lo hi H0 H1 G2 H3
    obtain ⟨H2, ih2⟩ := G2
    refine ⟨TT.lk H0 H1 H2 H3, ?_⟩
    intro hS hf; exact TT.lk ((hf _ _ (by omega) (by omega)).trans H0) ((hf _ _ (by omega) (by omega)).trans H1) (H2.fr (fun f i hi => hf f i (by omega) (by omega)) (fun _ _ _ h => h)) H3
  · intro x a lo hi d u H0 H1 H2 H3 H4
    refine ⟨TT.op0 H0 H1 H2 H3 H4, ?_⟩
    intro hS hf; exact TT.op0 ((hf _ _ (by omega) (by omega)).trans H0) ((hf _ _ (by omega) (by omega)).trans H1) ((hf _ _ (by omega) (by omega)).trans H2) H3 H4
  · intro x k a d l1 h1 u v lo hi H0 H1 H2 H3 G4 H5
    obtain ⟨H4, ih4⟩ := G4
    refine ⟨TT.op H0 H1 H2 H3 H4 H5, ?_⟩
    intro hS hf; exact TT.op ((hf _ _ (by omega) (by omega)).trans H0) ((hf _ _ (by omega) (by omega)).trans H1) H2 ((hf _ _ (by omega) (by omega)).trans H3) (H4.fr (fun f i hi => hf f i (by omega) (by omega)) (fun _ _ _ h => h)) H5
  · intro x a b lo hi d u H0 H1 H2 H3 H4 H5
    refine ⟨TT.pm H0 H1 H2 H3 H4 H5, ?_⟩
    intro hS hf; exact TT.pm ((hf _ _ (by omega) (by omega)).trans H0) ((hf _ _ (by omega) (by omega)).trans H1) H2 ((hf _ _ (by omega) (by omega)).trans H3) H4 H5
  · intro x a b d l1 h1 u v lo hi H0 H1 H2 H3 G4 H5
    obtain ⟨H4, ih4⟩ := G4
    refine ⟨TT.pmv H0 H1 H2 H3 H4 H5, ?_⟩
    intro hS hf; exact TT.pmv ((hf _ _ (by omega) (by omega)).trans H0) ((hf _ _ (by omega) (by omega)).trans H1) H2 ((hf _ _ (by omega) (by omega)).trans H3) (H4.fr (fun f i hi => hf f i (by omega) (by omega)) (fun _ _ _ h => h)) H5
  · intro x a b c d l1 h1 u m d2 w2 l2 h2 v lo hi H0 H1 H2 H3 H4 G5 G6 H7 H8 H9
    obtain ⟨H5, ih5⟩ := G5
    obtain ⟨H6, ih6⟩ := G6
    refine ⟨TT.subn H0 H1 H2 H3 H4 H5 H6 H7 H8 H9, ?_⟩
    intro hS hf; exact TT.subn ((hf _ _ (by omega) (by omega)).trans H0) ((hf _ _ (by omega) (by omega)).trans H1) ((hf _ _ (by omega) (by omega)).trans H2) ((hf _ _ (by omega) (by omega)).trans H3) H4 (H5.fr (fun f i hi => hf f i (by omega) (by omega)) (fun _ _ _ h => h)) (H6.fr (fun f i hi => hf f i (by omega) (by omega)) (fun _ _ _ h => h)) H7 H8 H9
  · intro x a d w l1 h1 p1 q1 u v lo hi p q H0 H1 G2 H3 H4
    obtain ⟨H2, ih2⟩ := G2
    refine ⟨TT.txt H0 H1 H2 H3 H4, ?_⟩
    intro hS hf; exact TT.txt ((hf _ _ (by omega) (by omega)).trans H0) ((hf _ _ (by omega) (by omega)).trans H1) (H2.fr (fun f i hi => hf f i (by omega) (by omega)) (fun _ _ _ h => h)) H3 H4
  · intro x k p q lo hi d u H0 H1 H2
    refine ⟨TT.byte H0 H1 H2, ?_⟩
    intro hS hf; exact TT.byte ((hf _ _ (by omega) (by omega)).trans H0) H1 H2
  · intro x a b i d l1 h1 u m l2 h2 v lo hi p q w H0 H1 H2 H3 H4 G5 G6 H7 H8 H9
    obtain ⟨H5, ih5⟩ := G5
    obtain ⟨H6, ih6⟩ := G6
    refine ⟨TT.expr H0 H1 H2 H3 H4 H5 H6 H7 H8 H9, ?_⟩
    intro hS hf; exact TT.expr ((hf _ _ (by omega) (by omega)).trans H0) ((hf _ _ (by omega) (by omega)).trans H1) ((hf _ _ (by omega) (by omega)).trans H2) ((hf _ _ (by omega) (by omega)).trans H3) H4 (H5.fr (fun f i hi => hf f i (by omega) (by omega)) (fun _ _ _ h => h)) (H6.fr (fun f i hi => hf f i (by omega) (by omega)) (fun _ _ _ h => h)) H7 H8 H9
  · intro x a d w1 l1 h1 p1 q1 u v lo hi p q w H0 H1 G2 H3 H4 H5
    obtain ⟨H2, ih2⟩ := G2
    refine ⟨TT.ife H0 H1 H2 H3 H4 H5, ?_⟩
    intro hS hf; exact TT.ife ((hf _ _ (by omega) (by omega)).trans H0) ((hf _ _ (by omega) (by omega)).trans H1) (H2.fr (fun f i hi => hf f i (by omega) (by omega)) (fun _ _ _ h => h)) H3 H4 H5
  · intro x c i u lo hi p q d H0 H1 H2 H3 H4 H5 H6 H7
    refine ⟨TT.part H0 H1 H2 H3 H4 H5 H6 H7, ?_⟩
    intro hS hf; exact TT.part ((hf _ _ (by omega) (by omega)).trans H0) ((hf _ _ (by omega) (by omega)).trans H1) ((hf _ _ (by omega) (by omega)).trans H2) H3 H4 ((hf _ _ (by omega) (by omega)).trans H5) ((hf _ _ (by omega) (by omega)).trans H6) H7
  · intro x c i u b d2 w2 l1 h1 p1 q1 v w lo hi p q d H0 H1 H2 H3 H4 H5 H6 G7 H8 H9 H10 H11
    obtain ⟨H7, ih7⟩ := G7
    refine ⟨TT.part2 H0 H1 H2 H3 H4 H5 H6 H7 H8 H9 H10 H11, ?_⟩
    intro hS hf; exact TT.part2 ((hf _ _ (by omega) (by omega)).trans H0) ((hf _ _ (by omega) (by omega)).trans H1) ((hf _ _ (by omega) (by omega)).trans H2) H3 H4 ((hf _ _ (by omega) (by omega)).trans H5) ((hf _ _ (by omega) (by omega)).trans H6) (H7.fr (fun f i hi => hf f i (by omega) (by omega)) (fun _ _ _ h => h)) H8 H9 H10 H11
  · intro x c i lo hi p q d u H0 H1 H2 H3 H4 H5
    refine ⟨TT.sup H0 H1 H2 H3 H4 H5, ?_⟩
    intro hS hf; exact TT.sup ((hf _ _ (by omega) (by omega)).trans H0) ((hf _ _ (by omega) (by omega)).trans H1) ((hf _ _ (by omega) (by omega)).trans H2) H3 H4 H5
  · intro x a b d l1 h1 u m w2 l2 h2 p1 q1 v lo hi p q w H0 H1 H2 G3 G4 H5 H6 H7 H8
    obtain ⟨H3, ih3⟩ := G3
    obtain ⟨H4, ih4⟩ := G4
    refine ⟨TT.br H0 H1 H2 H3 H4 H5 H6 H7 H8, ?_⟩
    intro hS hf; exact TT.br ((hf _ _ (by omega) (by omega)).trans H0) ((hf _ _ (by omega) (by omega)).trans H1) ((hf _ _ (by omega) (by omega)).trans H2) (H3.fr (fun f i hi => hf f i (by omega) (by omega)) (fun _ _ _ h => h)) (H4.fr (fun f i hi => hf f i (by omega) (by omega)) (fun _ _ _ h => h)) H5 H6 H7 H8
  · intro lo hi d u H0
    refine ⟨TT.co0 H0, ?_⟩
    intro hS hf; exact TT.co0 H0
  · intro x d lo hi u v G0
    obtain ⟨H0, ih0⟩ := G0
    refine ⟨TT.co1 H0, ?_⟩
    intro hS hf; exact TT.co1 (ih0 (by omega) hf)
  · intro x d lo hi u v G0
    obtain ⟨H0, ih0⟩ := G0
    refine ⟨TT.c45 H0, ?_⟩
    intro hS hf; exact TT.c45 (ih0 (by omega) hf)
  · intro x d lo hi u v G0
    obtain ⟨H0, ih0⟩ := G0
    refine ⟨TT.c56 H0, ?_⟩
    intro hS hf; exact TT.c56 (ih0 (by omega) hf)
  · intro x a nx d l1 h1 u m l2 h2 v lo hi H0 H1 H2 H3 G4 G5 H6 H7
    obtain ⟨H4, ih4⟩ := G4
    obtain ⟨H5, ih5⟩ := G5
    refine ⟨TT.eith H0 H1 H2 H3 H4 H5 H6 H7, ?_⟩
    intro hS hf; exact TT.eith ((hf _ _ (by omega) (by omega)).trans H0) ((hf _ _ (by omega) (by omega)).trans H1) H2 ((hf _ _ (by omega) (by omega)).trans H3) (H4.fr (fun f i hi => hf f i (by omega) (by omega)) (fun _ _ _ h => h)) (H5.fr (fun f i hi => hf f i (by omega) (by omega)) (fun _ _ _ h => h)) H6 H7
  · intro x a nx d l1 h1 u m l2 h2 v lo hi H0 H1 H2 H3 G4 G5 H6 H7
    obtain ⟨H4, ih4⟩ := G4
    obtain ⟨H5, ih5⟩ := G5
    refine ⟨TT.both H0 H1 H2 H3 H4 H5 H6 H7, ?_⟩
    intro hS hf; exact TT.both ((hf _ _ (by omega) (by omega)).trans H0) ((hf _ _ (by omega) (by omega)).trans H1) H2 ((hf _ _ (by omega) (by omega)).trans H3) (H4.fr (fun f i hi => hf f i (by omega) (by omega)) (fun _ _ _ h => h)) (H5.fr (fun f i hi => hf f i (by omega) (by omega)) (fun _ _ _ h => h)) H6 H7
  · intro x a d l1 h1 u v lo hi H0 H1 G2 H3
    obtain ⟨H2, ih2⟩ := G2
    refine ⟨TT.not H0 H1 H2 H3, ?_⟩
    intro hS hf; exact TT.not ((hf _ _ (by omega) (by omega)).trans H0) ((hf _ _ (by omega) (by omega)).trans H1) (H2.fr (fun f i hi => hf f i (by omega) (by omega)) (fun _ _ _ h => h)) H3
  · intro x a d l1 h1 u v lo hi H0 H1 G2 H3
    obtain ⟨H2, ih2⟩ := G2
    refine ⟨TT.clk H0 H1 H2 H3, ?_⟩
    intro hS hf; exact TT.clk ((hf _ _ (by omega) (by omega)).trans H0) ((hf _ _ (by omega) (by omega)).trans H1) (H2.fr (fun f i hi => hf f i (by omega) (by omega)) (fun _ _ _ h => h)) H3
  · intro x a d l1 h1 u v lo hi H0 H1 G2 H3
    obtain ⟨H2, ih2⟩ := G2
    refine ⟨TT.ask H0 H1 H2 H3, ?_⟩
    intro hS hf; exact TT.ask ((hf _ _ (by omega) (by omega)).trans H0) ((hf _ _ (by omega) (by omega)).trans H1) (H2.fr (fun f i hi => hf f i (by omega) (by omega)) (fun _ _ _ h => h)) H3
  · intro x a b c d l1 h1 u v lo hi H0 H1 H2 H3 H4 G5 H6
    obtain ⟨H5, ih5⟩ := G5
    refine ⟨TT.ent H0 H1 H2 H3 H4 H5 H6, ?_⟩
    intro hS hf; exact TT.ent ((hf _ _ (by omega) (by omega)).trans H0) ((hf _ _ (by omega) (by omega)).trans H1) ((hf _ _ (by omega) (by omega)).trans H2) H3 ((hf _ _ (by omega) (by omega)).trans H4) (H5.fr (fun f i hi => hf f i (by omega) (by omega)) (fun _ _ _ h => h)) H6
  · intro x a b lo hi d u H0 H1 H2 H3 H4
    refine ⟨TT.vstr H0 H1 H2 H3 H4, ?_⟩
    intro hS hf; exact TT.vstr ((hf _ _ (by omega) (by omega)).trans H0) ((hf _ _ (by omega) (by omega)).trans H1) ((hf _ _ (by omega) (by omega)).trans H2) H3 H4
  · intro x k lo hi d u H0 H1 H2
    refine ⟨TT.vtru H0 H1 H2, ?_⟩
    intro hS hf; exact TT.vtru ((hf _ _ (by omega) (by omega)).trans H0) H1 H2
  · intro x d lo hi u v G0
    obtain ⟨H0, ih0⟩ := G0
    refine ⟨TT.vsub H0, ?_⟩
    intro hS hf; exact TT.vsub (ih0 (by omega) hf)
theorem TT.dd {t' : Nat → Int → Int} {t : Nat → Int → Int} {Z : Int → Int → Prop} {S : Nat} {x y d w lo hi p q u v : Int} (h : TT t Z S x y d w lo hi p q u v) (hf : ∀ f i, f ≠ 4 → t' f i = t f i) (hi4 : ∀ i, t' 4 i = t 4 i ∨ rind (t' 4 i)) : TT t' Z S x y d w lo hi p q u v := by
  refine (h (fun S x y d w lo hi p q u v => TT t Z S x y d w lo hi p q u v ∧ (TT t' Z S x y d w lo hi p q u v)) ⟨?_, ?_, ?_, ?_, ?_, ?_, ?_, ?_, ?_, ?_, ?_, ?_, ?_, ?_, ?_, ?_, ?_, ?_, ?_, ?_, ?_, ?_, ?_, ?_, ?_, ?_, ?_, ?_, ?_, ?_, ?_, ?_, ?_, ?_, ?_, ?_, ?_, ?_, ?_, ?_, ?_, ?_, ?_, ?_, ?_, ?_, ?_, ?_, ?_, ?_⟩).2
  · intro S lo hi p q x d u H0 H1
    refine ⟨TT.nil H0 H1, ?_⟩
    exact TT.nil H0 H1
  · intro S x nx d w1 l1 h1 p1 q1 u m y w2 l2 h2 p2 q2 v lo hi p q w H0 H1 H2 G3 G4 H5 H6 H7 H8
    obtain ⟨H3, ih3⟩ := G3
    obtain ⟨H4, ih4⟩ := G4
    refine ⟨TT.cons H0 H1 H2 H3 H4 H5 H6 H7 H8, ?_⟩
    exact TT.cons H0 H1 ((hf _ _ (by decide)).trans H2) ih3 ih4 H5 H6 H7 H8
  · intro d x a b c l1 h1 u u1 l2 h2 u2 l3 h3 v lo hi H0 H1 H2 H3 H4 G5 G6 G7 H8 H9
    obtain ⟨H5, ih5⟩ := G5
    obtain ⟨H6, ih6⟩ := G6
    obtain ⟨H7, ih7⟩ := G7
    refine ⟨TT.item H0 H1 H2 H3 H4 H5 H6 H7 H8 H9, ?_⟩
    exact TT.item H0 ((hf _ _ (by decide)).trans H1) ((hf _ _ (by decide)).trans H2) ((hf _ _ (by decide)).trans H3) ((hf _ _ (by decide)).trans H4) ih5 ih6 ih7 H8 H9
  · intro x d lo hi u v G0
    obtain ⟨H0, ih0⟩ := G0
    refine ⟨TT.zone H0, ?_⟩
    exact TT.zone ih0
  · intro d x z a s n l1 h1 u m l2 h2 v lo hi H0 H1 H2 H3 H4 H5 H6 H7 G8 G9 H10 H11 H12 H13
    obtain ⟨H8, ih8⟩ := G8
    obtain ⟨H9, ih9⟩ := G9
    refine ⟨TT.zip H0 H1 H2 H3 H4 H5 H6 H7 H8 H9 H10 H11 H12 H13, ?_⟩
    exact TT.zip H0 ((hf _ _ (by decide)).trans H1) ((hf _ _ (by decide)).trans H2) ((hf _ _ (by decide)).trans H3) ((hf _ _ (by decide)).trans H4) ((hf _ _ (by decide)).trans H5) ((hf _ _ (by decide)).trans H6) ((hf _ _ (by decide)).trans H7) ih8 ih9 H10 H11 H12 H13
  · intro x a b lo hi d u H0 H1 H2 H3 H4
    refine ⟨TT.str H0 H1 H2 H3 H4, ?_⟩
    exact TT.str ((hf _ _ (by decide)).trans H0) ((hf _ _ (by decide)).trans H1) ((hf _ _ (by decide)).trans H2) H3 H4
  · intro x k lo hi d u H0 H1 H2
    refine ⟨TT.tru H0 H1 H2, ?_⟩
    exact TT.tru ((hf _ _ (by decide)).trans H0) H1 H2
  · intro x d lo hi u v G0
    obtain ⟨H0, ih0⟩ := G0
    refine ⟨TT.psub H0, ?_⟩
    exact TT.psub ih0
  · intro x a d l1 h1 u v lo hi H0 H1 G2 H3
    obtain ⟨H2, ih2⟩ := G2
    refine ⟨TT.row H0 H1 H2 H3, ?_⟩
    exact TT.row ((hf _ _ (by decide)).trans H0) ((hf _ _ (by decide)).trans H1) ih2 H3
  · intro x lo hi d u H0 H1
    refine ⟨TT.name H0 H1, ?_⟩
    exact TT.name ((hf _ _ (by decide)).trans H0) H1
  · intro x a d l1 h1 u v lo hi H0 H1 G2 H3
    obtain ⟨H2, ih2⟩ := G2
    refine ⟨TT.call H0 H1 H2 H3, ?_⟩
    exact TT.call ((hf _ _ (by decide)).trans H0) ((hf _ _ (by decide)).trans H1) ih2 H3
  · intro x a b d l1 h1 u m l2 h2 v lo hi H0 H1 H2 G3 G4 H5 H6
    obtain ⟨H3, ih3⟩ := G3
    obtain ⟨H4, ih4⟩ := G4
    refine ⟨TT.byt H0 H1 H2 H3 H4 H5 H6, ?_⟩
    exact TT.byt ((hf _ _ (by decide)).trans H0) ((hf _ _ (by decide)).trans H1) ((hf _ _ (by decide)).trans H2) ih3 ih4 H5 H6
  · intro x k a d l1 h1 u v lo hi H0 H1 H2 H3 G4 H5
    obtain ⟨H4, ih4⟩ := G4
    refine ⟨TT.func H0 H1 H2 H3 H4 H5, ?_⟩
    exact TT.func ((hf _ _ (by decide)).trans H0) ((hf _ _ (by decide)).trans H1) H2 ((hf _ _ (by decide)).trans H3) ih4 H5
  · intro x a d l1 h1 u v lo hi H0 H1 G2 H3
    obtain ⟨H2, ih2⟩ := G2
    refine ⟨TT.word H0 H1 H2 H3, ?_⟩
    exact TT.word ((hf _ _ (by decide)).trans H0) ((hf _ _ (by decide)).trans H1) ih2 H3
  · intro x a lo hi d u H0 H1 H2 H3
    refine ⟨TT.pt H0 H1 H2 H3, ?_⟩
    exact TT.pt ((hf _ _ (by decide)).trans H0) ((hf _ _ (by decide)).trans H1) H2 H3
  · intro x a d l1 h1 u v lo hi H0 H1 G2 H3
    obtain ⟨H2, ih2⟩ := G2
    refine ⟨TT.ptby H0 H1 H2 H3, ?_⟩
    exact TT.ptby ((hf _ _ (by decide)).trans H0) ((hf _ _ (by decide)).trans H1) ih2 H3
  · intro x a nx d l1 h1 u m l2 h2 v lo hi H0 H1 H2 H3 G4 G5 H6 H7
    obtain ⟨H4, ih4⟩ := G4
    obtain ⟨H5, ih5⟩ := G5
    refine ⟨TT.gp H0 H1 H2 H3 H4 H5 H6 H7, ?_⟩
    exact TT.gp ((hf _ _ (by decide)).trans H0) ((hf _ _ (by decide)).trans H1) H2 ((hf _ _ (by decide)).trans H3) ih4 ih5 H6 H7
  · intro x a d l1 h1 u v lo hi H0 H1 G2 H3
    obtain ⟨H2, ih2⟩ := G2
    refine ⟨TT.apc H0 H1 H2 H3, ?_⟩
    exact TT.apc ((hf _ _ (by decide)).trans H0) ((hf _ _ (by decide)).trans H1) ih2 H3
  · intro x a b d l1 h1 u m l2 h2 v lo hi H0 H1 H2 G3 G4 H5 H6
    obtain ⟨H3, ih3⟩ := G3
    obtain ⟨H4, ih4⟩ := G4
    refine ⟨TT.apb H0 H1 H2 H3 H4 H5 H6, ?_⟩
    exact TT.apb ((hf _ _ (by decide)).trans H0) ((hf _ _ (by decide)).trans H1) ((hf _ _ (by decide)).trans H2) ih3 ih4 H5 H6
  · intro x a d l1 h1 u v lo hi H0 H1 G2 H3
    obtain ⟨H2, ih2⟩ := G2
    refine ⟨TT.aps H0 H1 H2 H3, ?_⟩
    exact TT.aps ((hf _ _ (by decide)).trans H0) ((hf _ _ (by decide)).trans H1) ih2 H3
  · intro x a d l1 h1 u v lo hi H0 H1 G2 H3
    obtain ⟨H2, ih2⟩ := G2
    refine ⟨TT.giv H0 H1 H2 H3, ?_⟩
    exact TT.giv ((hf _ _ (by decide)).trans H0) ((hf _ _ (by decide)).trans H1) ih2 H3
  · intro x a d l1 h1 u v lo hi H0 H1 G2 H3
    obtain ⟨H2, ih2⟩ := G2
    refine ⟨TT.nam H0 H1 H2 H3, ?_⟩
    exact TT.nam ((hf _ _ (by decide)).trans H0) ((hf _ _ (by decide)).trans H1) ih2 H3
  · intro x lo hi d u H0 H1 H2
    refine ⟨TT.lk0 H0 H1 H2, ?_⟩
    exact TT.lk0 ((hf _ _ (by decide)).trans H0) ((hf _ _ (by decide)).trans H1) H2
  · intro x a d l1 h1 u v lo hi H0 H1 G2 H3
    obtain ⟨H2, ih2⟩ := G2
    refine ⟨TT.lk H0 H1 H2 H3, ?_⟩
    exact TT.lk ((hf _ _ (by decide)).trans H0) ((hf _ _ (by decide)).trans H1) ih2 H3
  · intro x a lo hi d u H0 H1 H2 H3 H4
    refine ⟨TT.op0 H0 H1 H2 H3 H4, ?_⟩
    exact TT.op0 ((hf _ _ (by decide)).trans H0) ((hf _ _ (by decide)).trans H1) ((hf _ _ (by decide)).trans H2) H3 H4
  · intro x k a d l1 h1 u v lo hi H0 H1 H2 H3 G4 H5
    obtain ⟨H4, ih4⟩ := G4
    refine ⟨TT.op H0 H1 H2 H3 H4 H5, ?_⟩
    exact TT.op ((hf _ _ (by decide)).trans H0) ((hf _ _ (by decide)).trans H1) H2 ((hf _ _ (by decide)).trans H3) ih4 H5
  · intro x a b lo hi d u H0 H1 H2 H3 H4 H5
    refine ⟨TT.pm H0 H1 H2 H3 H4 H5, ?_⟩
    exact TT.pm ((hf _ _ (by decide)).trans H0) ((hf _ _ (by decide)).trans H1) H2 ((hf _ _ (by decide)).trans H3) H4 H5
  · intro x a b d l1 h1 u v lo hi H0 H1 H2 H3 G4 H5
    obtain ⟨H4, ih4⟩ := G4
    refine ⟨TT.pmv H0 H1 H2 H3 H4 H5, ?_⟩
    exact TT.pmv ((hf _ _ (by decide)).trans H0) ((hf _ _ (by decide)).trans H1) H2 ((hf _ _ (by decide)).trans H3) ih4 H5
  · intro x a b c d l1 h1 u m d2 w2 l2 h2 v lo hi H0 H1 H2 H3 H4 G5 G6 H7 H8 H9
    obtain ⟨H5, ih5⟩ := G5
    obtain ⟨H6, ih6⟩ := G6
    refine ⟨TT.subn H0 H1 H2 H3 H4 H5 H6 H7 H8 H9, ?_⟩
    exact TT.subn ((hf _ _ (by decide)).trans H0) ((hf _ _ (by decide)).trans H1) ((hf _ _ (by decide)).trans H2) ((hf _ _ (by decide)).trans H3) H4 ih5 ih6 H7 H8 H9
  · intro x a d w l1 h1 p1 q1 u v lo hi p q H0 H1 G2 H3 H4
    obtain ⟨H2, ih2⟩ := G2
    refine ⟨TT.txt H0 H1 H2 H3 H4, ?_⟩
    exact TT.txt ((hf _ _ (by decide)).trans H0) ((hf _ _ (by decide)).trans H1) ih2 H3 H4
  · intro x k p q lo hi d u H0 H1 H2
    refine ⟨TT.byte H0 H1 H2, ?_⟩
    exact TT.byte ((hf _ _ (by decide)).trans H0) H1 H2
  · intro x a b i d l1 h1 u m l2 h2 v lo hi p q w H0 H1 H2 H3 H4 G5 G6 H7 H8 H9
    obtain ⟨H5, ih5⟩ := G5
    obtain ⟨H6, ih6⟩ := G6
    refine ⟨TT.expr H0 H1 H2 H3 H4 H5 H6 H7 H8 H9, ?_⟩
    exact TT.expr ((hf _ _ (by decide)).trans H0) ((hf _ _ (by decide)).trans H1) ((hf _ _ (by decide)).trans H2) rfl (by rcases hi4 x with e | e; (rw [e]; simp only [*]); exact e) ih5 ih6 H7 H8 H9
  · intro x a d w1 l1 h1 p1 q1 u v lo hi p q w H0 H1 G2 H3 H4 H5
    obtain ⟨H2, ih2⟩ := G2
    refine ⟨TT.ife H0 H1 H2 H3 H4 H5, ?_⟩
    exact TT.ife ((hf _ _ (by decide)).trans H0) ((hf _ _ (by decide)).trans H1) ih2 H3 H4 H5
  · intro x c i u lo hi p q d H0 H1 H2 H3 H4 H5 H6 H7
    refine ⟨TT.part H0 H1 H2 H3 H4 H5 H6 H7, ?_⟩
    exact TT.part ((hf _ _ (by decide)).trans H0) ((hf _ _ (by decide)).trans H1) rfl (by rcases hi4 x with e | e; (rw [e]; simp only [*]); exact e) H4 ((hf _ _ (by decide)).trans H5) ((hf _ _ (by decide)).trans H6) H7
  · intro x c i u b d2 w2 l1 h1 p1 q1 v w lo hi p q d H0 H1 H2 H3 H4 H5 H6 G7 H8 H9 H10 H11
    obtain ⟨H7, ih7⟩ := G7
    refine ⟨TT.part2 H0 H1 H2 H3 H4 H5 H6 H7 H8 H9 H10 H11, ?_⟩
    exact TT.part2 ((hf _ _ (by decide)).trans H0) ((hf _ _ (by decide)).trans H1) rfl (by rcases hi4 x with e | e; (rw [e]; simp only [*]); exact e) H4 ((hf _ _ (by decide)).trans H5) ((hf _ _ (by decide)).trans H6) ih7 H8 H9 H10 H11
  · intro x c i lo hi p q d u H0 H1 H2 H3 H4 H5
    refine ⟨TT.sup H0 H1 H2 H3 H4 H5, ?_⟩
    exact TT.sup ((hf _ _ (by decide)).trans H0) ((hf _ _ (by decide)).trans H1) rfl (by rcases hi4 x with e | e; (rw [e]; simp only [*]); exact e) H4 H5
  · intro x a b d l1 h1 u m w2 l2 h2 p1 q1 v lo hi p q w H0 H1 H2 G3 G4 H5 H6 H7 H8
    obtain ⟨H3, ih3⟩ := G3
    obtain ⟨H4, ih4⟩ := G4
    refine ⟨TT.br H0 H1 H2 H3 H4 H5 H6 H7 H8, ?_⟩
    exact TT.br ((hf _ _ (by decide)).trans H0) ((hf _ _ (by decide)).trans H1) ((hf _ _ (by decide)).trans H2) ih3 ih4 H5 H6 H7 H8
  · intro lo hi d u H0
    refine ⟨TT.co0 H0, ?_⟩
    exact TT.co0 H0
  · intro x d lo hi u v G0
    obtain ⟨H0, ih0⟩ := G0
    refine ⟨TT.co1 H0, ?_⟩
    exact TT.co1 ih0
  · intro x d lo hi u v G0
    obtain ⟨H0, ih0⟩ := G0
    refine ⟨TT.c45 H0, ?_⟩
    exact TT.c45 ih0
  · intro x d lo hi u v G0
    obtain ⟨H0, ih0⟩ := G0
    refine ⟨TT.c56 H0, ?_⟩
    exact TT.c56 ih0
  · intro x a nx d l1 h1 u m l2 h2 v lo hi H0 H1 H2 H3 G4 G5 H6 H7
    obtain ⟨H4, ih4⟩ := G4
    obtain ⟨H5, ih5⟩ := G5
    refine ⟨TT.eith H0 H1 H2 H3 H4 H5 H6 H7, ?_⟩
    exact TT.eith ((hf _ _ (by decide)).trans H0) ((hf _ _ (by decide)).trans H1) H2 ((hf _ _ (by decide)).trans H3) ih4 ih5 H6 H7
  · intro x a nx d l1 h1 u m l2 h2 v lo hi H0 H1 H2 H3 G4 G5 H6 H7
    obtain ⟨H4, ih4⟩ := G4
    obtain ⟨H5, ih5⟩ := G5
    refine ⟨TT.both H0 H1 H2 H3 H4 H5 H6 H7, ?_⟩
    exact TT.both ((hf _ _ (by decide)).trans H0) ((hf _ _ (by decide)).trans H1) H2 ((hf _ _ (by decide)).trans H3) ih4 ih5 H6 H7
  · intro x a d l1 h1 u v lo hi H0 H1 G2 H3
    obtain ⟨H2, ih2⟩ := G2
    refine ⟨TT.not H0 H1 H2 H3, ?_⟩
    exact TT.not ((hf _ _ (by decide)).trans H0) ((hf _ _ (by decide)).trans H1) ih2 H3
  · intro x a d l1 h1 u v lo hi H0 H1 G2 H3
    obtain ⟨H2, ih2⟩ := G2
    refine ⟨TT.clk H0 H1 H2 H3, ?_⟩
    exact TT.clk ((hf _ _ (by decide)).trans H0) ((hf _ _ (by decide)).trans H1) ih2 H3
  · intro x a d l1 h1 u v lo hi H0 H1 G2 H3
    obtain ⟨H2, ih2⟩ := G2
    refine ⟨TT.ask H0 H1 H2 H3, ?_⟩
    exact TT.ask ((hf _ _ (by decide)).trans H0) ((hf _ _ (by decide)).trans H1) ih2 H3
  · intro x a b c d l1 h1 u v lo hi H0 H1 H2 H3 H4 G5 H6
    obtain ⟨H5, ih5⟩ := G5
    refine ⟨TT.ent H0 H1 H2 H3 H4 H5 H6, ?_⟩
    exact TT.ent ((hf _ _ (by decide)).trans H0) ((hf _ _ (by decide)).trans H1) ((hf _ _ (by decide)).trans H2) H3 ((hf _ _ (by decide)).trans H4) ih5 H6
  · intro x a b lo hi d u H0 H1 H2 H3 H4
    refine ⟨TT.vstr H0 H1 H2 H3 H4, ?_⟩
    exact TT.vstr ((hf _ _ (by decide)).trans H0) ((hf _ _ (by decide)).trans H1) ((hf _ _ (by decide)).trans H2) H3 H4
  · intro x k lo hi d u H0 H1 H2
    refine ⟨TT.vtru H0 H1 H2, ?_⟩
    exact TT.vtru ((hf _ _ (by decide)).trans H0) H1 H2
  · intro x d lo hi u v G0
    obtain ⟨H0, ih0⟩ := G0
    refine ⟨TT.vsub H0, ?_⟩
    exact TT.vsub ih0
theorem TT.snoc {t : Nat → Int → Int} {Z : Int → Int → Prop} {S : Nat} {x y d w lo hi p q u v : Int} {w2 l1 h1 p1 q1 HI Q z v' : Int} (h : TT t Z S x y d w lo hi p q u v) (hS : 100 ≤ S) (hy : y ≠ 0) (he : TT t Z (S - 100) y 0 d w2 l1 h1 p1 q1 v v') (hb : hi ≤ l1 ∧ h1 ≤ HI ∧ q ≤ p1 ∧ q1 ≤ Q) (hr : l1 ≤ y ∧ y < h1 ∨ p1 ≤ y ∧ y < q1) (h5 : t 5 y = z) : TT t Z S x z d (w + w2) lo HI p Q u v' := by
  refine (h (fun S x y d w lo hi p q u v => TT t Z S x y d w lo hi p q u v ∧ (100 ≤ S → y ≠ 0 → TT t Z (S - 100) y 0 d w2 l1 h1 p1 q1 v v' → hi ≤ l1 ∧ h1 ≤ HI ∧ q ≤ p1 ∧ q1 ≤ Q → (l1 ≤ y ∧ y < h1 ∨ p1 ≤ y ∧ y < q1) → t 5 y = z → TT t Z S x z d (w + w2) lo HI p Q u v')) ⟨?_, ?_, ?_, ?_, ?_, ?_, ?_, ?_, ?_, ?_, ?_, ?_, ?_, ?_, ?_, ?_, ?_, ?_, ?_, ?_, ?_, ?_, ?_, ?_, ?_, ?_, ?_, ?_, ?_, ?_, ?_, ?_, ?_, ?_, ?_, ?_, ?_, ?_, ?_, ?_, ?_, ?_, ?_, ?_, ?_, ?_, ?_, ?_, ?_, ?_⟩).2 hS hy he hb hr h5
  · intro S lo hi p q x d u H0 H1
    refine ⟨TT.nil H0 H1, ?_⟩
    intro hS hy he hb hr h5; have le := he.le; rw [Int.zero_add]; have hh := TT.cons (y := z) hS hy h5 he (TT.nil (lo := HI) (hi := HI) (p := Q) (q := Q) hS (by omega)) (lo := lo) (hi := HI) (p := p) (q := Q) (w := w2 + 0) (by omega) hr (by omega) (by omega); rw [Int.add_zero] at hh; exact hh
  · intro S x nx d w1 l1 h1 p1 q1 u m y w2 l2 h2 p2 q2 v lo hi p q w H0 H1 H2 G3 G4 H5 H6 H7 H8
    obtain ⟨H3, ih3⟩ := G3
    obtain ⟨H4, ih4⟩ := G4
    refine ⟨TT.cons H0 H1 H2 H3 H4 H5 H6 H7 H8, ?_⟩
    intro hS hy he hb hr h5; have hh := ih4 hS hy he (by omega) hr h5; have l2 := hh.le; have le := he.le; exact TT.cons H0 H1 H2 H3 hh (by omega) H6 (by omega) (by omega)
  · intro d x a b c l1 h1 u u1 l2 h2 u2 l3 h3 v lo hi H0 H1 H2 H3 H4 G5 G6 G7 H8 H9
    obtain ⟨H5, ih5⟩ := G5
    obtain ⟨H6, ih6⟩ := G6
    obtain ⟨H7, ih7⟩ := G7
    refine ⟨TT.item H0 H1 H2 H3 H4 H5 H6 H7 H8 H9, ?_⟩
    intro hS; omega
  · intro x d lo hi u v G0
    obtain ⟨H0, ih0⟩ := G0
    refine ⟨TT.zone H0, ?_⟩
    intro hS; omega
  · intro d x z a s n l1 h1 u m l2 h2 v lo hi H0 H1 H2 H3 H4 H5 H6 H7 G8 G9 H10 H11 H12 H13
    obtain ⟨H8, ih8⟩ := G8
    obtain ⟨H9, ih9⟩ := G9
    refine ⟨TT.zip H0 H1 H2 H3 H4 H5 H6 H7 H8 H9 H10 H11 H12 H13, ?_⟩
    intro hS; omega
  · intro x a b lo hi d u H0 H1 H2 H3 H4
    refine ⟨TT.str H0 H1 H2 H3 H4, ?_⟩
    intro hS; omega
  · intro x k lo hi d u H0 H1 H2
    refine ⟨TT.tru H0 H1 H2, ?_⟩
    intro hS; omega
  · intro x d lo hi u v G0
    obtain ⟨H0, ih0⟩ := G0
    refine ⟨TT.psub H0, ?_⟩
    intro hS; omega
  · intro x a d l1 h1 u v lo hi H0 H1 G2 H3
    obtain ⟨H2, ih2⟩ := G2
    refine ⟨TT.row H0 H1 H2 H3, ?_⟩
    intro hS; omega
  · intro x lo hi d u H0 H1
    refine ⟨TT.name H0 H1, ?_⟩
    intro hS; omega
  · intro x a d l1 h1 u v lo hi H0 H1 G2 H3
    obtain ⟨H2, ih2⟩ := G2
    refine ⟨TT.call H0 H1 H2 H3, ?_⟩
    intro hS; omega
  · intro x a b d l1 h1 u m l2 h2 v lo hi H0 H1 H2 G3 G4 H5 H6
    obtain ⟨H3, ih3⟩ := G3
    obtain ⟨H4, ih4⟩ := G4
    refine ⟨TT.byt H0 H1 H2 H3 H4 H5 H6, ?_⟩
    intro hS; omega
  · intro x k a d l1 h1 u v lo hi H0 H1 H2 H3 G4 H5
    obtain ⟨H4, ih4⟩ := G4
    refine ⟨TT.func H0 H1 H2 H3 H4 H5, ?_⟩
    intro hS; omega
  · intro x a d l1 h1 u v lo hi H0 H1 G2 H3
    obtain ⟨H2, ih2⟩ := G2
    refine ⟨TT.word H0 H1 H2 H3, ?_⟩
    intro hS; omega
  · intro x a lo hi d u H0 H1 H2 H3
    refine ⟨TT.pt H0 H1 H2 H3, ?_⟩
    intro hS; omega
  · intro x a d l1 h1 u v lo hi H0 H1 G2 H3
    obtain ⟨H2, ih2⟩ := G2
    refine ⟨TT.ptby H0 H1 H2 H3, ?_⟩
    intro hS; omega
  · intro x a nx d l1 h1 u m l2 h2 v lo hi H0 H1 H2 H3 G4 G5 H6 H7
    obtain ⟨H4, ih4⟩ := G4
    obtain ⟨H5, ih5⟩ := G5
    refine ⟨TT.gp H0 H1 H2 H3 H4 H5 H6 H7, ?_⟩
    intro hS; omega
  · intro x a d l1 h1 u v lo hi H0 H1 G2 H3
    obtain ⟨H2, ih2⟩ := G2
    refine ⟨TT.apc H0 H1 H2 H3, ?_⟩
    intro hS; omega
  · intro x a b d l1 h1 u m l2 h2 v lo hi H0 H1 H2 G3 G4 H5 H6
    obtain ⟨H3, ih3⟩ := G3
    obtain ⟨H4, ih4⟩ := G4
    refine ⟨TT.apb H0 H1 H2 H3 H4 H5 H6, ?_⟩
    intro hS; omega
  · intro x a d l1 h1 u v lo hi H0 H1 G2 H3
    obtain ⟨H2, ih2⟩ := G2
    refine ⟨TT.aps H0 H1 H2 H3, ?_⟩
    intro hS; omega
  · intro x a d l1 h1 u v lo hi H0 H1 G2 H3
    obtain ⟨H2, ih2⟩ := G2
    refine ⟨TT.giv H0 H1 H2 H3, ?_⟩
    intro hS; omega
  · intro x a d l1 h1 u v lo hi H0 H1 G2 H3
    obtain ⟨H2, ih2⟩ := G2
    refine ⟨TT.nam H0 H1 H2 H3, ?_⟩
    intro hS; omega
  · intro x lo hi d u H0 H1 H2
    refine ⟨TT.lk0 H0 H1 H2, ?_⟩
    intro hS; omega
  · intro x a d l1 h1 u v lo hi H0 H1 G2 H3
    obtain ⟨H2, ih2⟩ := G2
    refine ⟨TT.lk H0 H1 H2 H3, ?_⟩
    intro hS; omega
  · intro x a lo hi d u H0 H1 H2 H3 H4
    refine ⟨TT.op0 H0 H1 H2 H3 H4, ?_⟩
    intro hS; omega
  · intro x k a d l1 h1 u v lo hi H0 H1 H2 H3 G4 H5
    obtain ⟨H4, ih4⟩ := G4
    refine ⟨TT.op H0 H1 H2 H3 H4 H5, ?_⟩
    intro hS; omega
  · intro x a b lo hi d u H0 H1 H2 H3 H4 H5
    refine ⟨TT.pm H0 H1 H2 H3 H4 H5, ?_⟩
    intro hS; omega
  · intro x a b d l1 h1 u v lo hi H0 H1 H2 H3 G4 H5
    obtain ⟨H4, ih4⟩ := G4
    refine ⟨TT.pmv H0 H1 H2 H3 H4 H5, ?_⟩
    intro hS; omega
  · intro x a b c d l1 h1 u m d2 w2 l2 h2 v lo hi H0 H1 H2 H3 H4 G5 G6 H7 H8 H9
    obtain ⟨H5, ih5⟩ := G5
    obtain ⟨H6, ih6⟩ := G6
    refine ⟨TT.subn H0 H1 H2 H3 H4 H5 H6 H7 H8 H9, ?_⟩
    intro hS; omega
  · intro x a d w l1 h1 p1 q1 u v lo hi p q H0 H1 G2 H3 H4
    obtain ⟨H2, ih2⟩ := G2
    refine ⟨TT.txt H0 H1 H2 H3 H4, ?_⟩
    intro hS; omega
  · intro x k p q lo hi d u H0 H1 H2
    refine ⟨TT.byte H0 H1 H2, ?_⟩
    intro hS; omega
  · intro x a b i d l1 h1 u m l2 h2 v lo hi p q w H0 H1 H2 H3 H4 G5 G6 H7 H8 H9
    obtain ⟨H5, ih5⟩ := G5
    obtain ⟨H6, ih6⟩ := G6
    refine ⟨TT.expr H0 H1 H2 H3 H4 H5 H6 H7 H8 H9, ?_⟩
    intro hS; omega
  · intro x a d w1 l1 h1 p1 q1 u v lo hi p q w H0 H1 G2 H3 H4 H5
    obtain ⟨H2, ih2⟩ := G2
    refine ⟨TT.ife H0 H1 H2 H3 H4 H5, ?_⟩
    intro hS; omega
  · intro x c i u lo hi p q d H0 H1 H2 H3 H4 H5 H6 H7
    refine ⟨TT.part H0 H1 H2 H3 H4 H5 H6 H7, ?_⟩
    intro hS; omega
  · intro x c i u b d2 w2 l1 h1 p1 q1 v w lo hi p q d H0 H1 H2 H3 H4 H5 H6 G7 H8 H9 H10 H11
    obtain ⟨H7, ih7⟩ := G7
    refine ⟨TT.part2 H0 H1 H2 H3 H4 H5 H6 H7 H8 H9 H10 H11, ?_⟩
    intro hS; omega
  · intro x c i lo hi p q d u H0 H1 H2 H3 H4 H5
    refine ⟨TT.sup H0 H1 H2 H3 H4 H5, ?_⟩
    intro hS; omega
  · intro x a b d l1 h1 u m w2 l2 h2 p1 q1 v lo hi p q w H0 H1 H2 G3 G4 H5 H6 H7 H8
    obtain ⟨H3, ih3⟩ := G3
    obtain ⟨H4, ih4⟩ := G4
    refine ⟨TT.br H0 H1 H2 H3 H4 H5 H6 H7 H8, ?_⟩
    intro hS; omega
  · intro lo hi d u H0
    refine ⟨TT.co0 H0, ?_⟩
    intro hS; omega
  · intro x d lo hi u v G0
    obtain ⟨H0, ih0⟩ := G0
    refine ⟨TT.co1 H0, ?_⟩
    intro hS; omega
  · intro x d lo hi u v G0
    obtain ⟨H0, ih0⟩ := G0
    refine ⟨TT.c45 H0, ?_⟩
    intro hS; omega
  · intro x d lo hi u v G0
    obtain ⟨H0, ih0⟩ := G0
    refine ⟨TT.c56 H0, ?_⟩
    intro hS; omega
  · intro x a nx d l1 h1 u m l2 h2 v lo hi H0 H1 H2 H3 G4 G5 H6 H7
    obtain ⟨H4, ih4⟩ := G4
    obtain ⟨H5, ih5⟩ := G5
    refine ⟨TT.eith H0 H1 H2 H3 H4 H5 H6 H7, ?_⟩
    intro hS; omega
  · intro x a nx d l1 h1 u m l2 h2 v lo hi H0 H1 H2 H3 G4 G5 H6 H7
    obtain ⟨H4, ih4⟩ := G4
    obtain ⟨H5, ih5⟩ := G5
    refine ⟨TT.both H0 H1 H2 H3 H4 H5 H6 H7, ?_⟩
    intro hS; omega
  · intro x a d l1 h1 u v lo hi H0 H1 G2 H3
    obtain ⟨H2, ih2⟩ := G2
    refine ⟨TT.not H0 H1 H2 H3, ?_⟩
    intro hS; omega
  · intro x a d l1 h1 u v lo hi H0 H1 G2 H3
    obtain ⟨H2, ih2⟩ := G2
    refine ⟨TT.clk H0 H1 H2 H3, ?_⟩
    intro hS; omega
  · intro x a d l1 h1 u v lo hi H0 H1 G2 H3
    obtain ⟨H2, ih2⟩ := G2
    refine ⟨TT.ask H0 H1 H2 H3, ?_⟩
    intro hS; omega
  · intro x a b c d l1 h1 u v lo hi H0 H1 H2 H3 H4 G5 H6
    obtain ⟨H5, ih5⟩ := G5
    refine ⟨TT.ent H0 H1 H2 H3 H4 H5 H6, ?_⟩
    intro hS; omega
  · intro x a b lo hi d u H0 H1 H2 H3 H4
    refine ⟨TT.vstr H0 H1 H2 H3 H4, ?_⟩
    intro hS; omega
  · intro x k lo hi d u H0 H1 H2
    refine ⟨TT.vtru H0 H1 H2, ?_⟩
    intro hS; omega
  · intro x d lo hi u v G0
    obtain ⟨H0, ih0⟩ := G0
    refine ⟨TT.vsub H0, ?_⟩
    intro hS; omega
