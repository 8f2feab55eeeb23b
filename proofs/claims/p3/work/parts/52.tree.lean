/-! THE TREE of a group, deep: TT t Z S x y d w lo hi p q u v: x is a node (of sort S below 100) or the head of a list (S = 100 + sort) that ends ahead of y, at depth d, of weight w; all its nodes lie in lo .. hi or p .. q, its regions are the entries u .. v of the table of parts. t f is the f-th array of the group. -/
/-- an indent: its bytes lie in the group's -/
def rind (i : Int) : Prop := ∃ s n, i = 4096 * s + n ∧ 0 ≤ s ∧ 0 ≤ n ∧ n < 4096 ∧ s + n ≤ 60000
theorem rind_0 : rind 0 := ⟨0, 0, by omega, by omega, by omega, by omega, by omega⟩
inductive TT (t : Nat → Int → Int) (Z : Int → Int → Prop) : Nat → Int → Int → Int → Int → Int → Int → Int → Int → Int → Int → Prop
  | nil {S : Nat} {lo hi p q x d u : Int} (H0 : 100 ≤ S) (H1 : lo ≤ hi ∧ p ≤ q) : TT t Z S x x d 0 lo hi p q u u
  | cons {S : Nat} {x nx d w1 l1 h1 p1 q1 u m y w2 l2 h2 p2 q2 v lo hi p q w : Int} (H0 : 100 ≤ S) (H1 : x ≠ 0) (H2 : t 5 x = nx) (H3 : TT t Z (S - 100) x 0 d w1 l1 h1 p1 q1 u m) (H4 : TT t Z S nx y d w2 l2 h2 p2 q2 m v) (H5 : lo ≤ l1 ∧ l1 ≤ h1 ∧ h1 ≤ l2 ∧ l2 ≤ h2 ∧ h2 ≤ hi ∧ p ≤ p1 ∧ p1 ≤ q1 ∧ q1 ≤ p2 ∧ p2 ≤ q2 ∧ q2 ≤ q) (H6 : l1 ≤ x ∧ x < h1 ∨ p1 ≤ x ∧ x < q1) (H7 : w = w1 + w2 ∧ 0 ≤ w1 ∧ 0 ≤ w2) (H8 : u ≤ m ∧ m ≤ v) : TT t Z S x y d w lo hi p q u v
  | item {d x a b c l1 h1 u u1 l2 h2 u2 l3 h3 v lo hi : Int} (H0 : 0 ≤ d ∧ d ≤ 20) (H1 : t 0 x = 41) (H2 : t 1 x = a) (H3 : t 2 x = b) (H4 : t 3 x = c) (H5 : TT t Z 2 a 0 d 0 l1 h1 0 0 u u1) (H6 : TT t Z 103 b 0 d 0 l2 h2 0 0 u1 u2) (H7 : TT t Z 104 c 0 d 0 l3 h3 0 0 u2 v) (H8 : lo ≤ x ∧ x < l1 ∧ l1 ≤ h1 ∧ h1 ≤ l2 ∧ l2 ≤ h2 ∧ h2 ≤ l3 ∧ l3 ≤ h3 ∧ h3 ≤ hi) (H9 : u ≤ u1 ∧ u1 ≤ u2 ∧ u2 ≤ v) : TT t Z 1 x 0 d 1 lo hi 0 0 u v
  | zone {x d lo hi u v : Int} (H0 : TT t Z 1 x 0 d 1 lo hi 0 0 u v) : TT t Z 17 x 0 d 0 lo hi 0 0 u v
  | zip {d x z a s n l1 h1 u m l2 h2 v lo hi : Int} (H0 : 0 ≤ d ∧ d ≤ 20) (H1 : t 0 x = 41) (H2 : t 1 x = z) (H3 : t 2 x = 0) (H4 : t 3 x = 0) (H5 : t 0 z = 40) (H6 : t 1 z = a) (H7 : t 2 z = s) (H8 : TT t Z 101 a 0 d n l1 h1 0 0 u m) (H9 : TT t Z 10 s 0 d 0 l2 h2 0 0 m v) (H10 : s ≠ 0) (H11 : Z s n) (H12 : lo ≤ l1 ∧ l1 ≤ h1 ∧ h1 ≤ z ∧ z < l2 ∧ l2 ≤ h2 ∧ h2 ≤ x ∧ x < hi) (H13 : u ≤ m ∧ m ≤ v) : TT t Z 17 x 0 d 0 lo hi 0 0 u v
  | str {x a b lo hi d u : Int} (H0 : t 0 x = 30) (H1 : t 1 x = a) (H2 : t 2 x = b) (H3 : 0 ≤ a ∧ 0 ≤ b ∧ b ≤ 4000 ∧ a + b ≤ 60000) (H4 : lo ≤ x ∧ x < hi) : TT t Z 2 x 0 d 0 lo hi 0 0 u u
  | tru {x k lo hi d u : Int} (H0 : t 0 x = k) (H1 : k = 31 ∨ k = 32) (H2 : lo ≤ x ∧ x < hi) : TT t Z 2 x 0 d 0 lo hi 0 0 u u
  | psub {x d lo hi u v : Int} (H0 : TT t Z 10 x 0 d 0 lo hi 0 0 u v) : TT t Z 2 x 0 d 0 lo hi 0 0 u v
  | row {x a d l1 h1 u v lo hi : Int} (H0 : t 0 x = 34) (H1 : t 1 x = a) (H2 : TT t Z 107 a 0 d 0 l1 h1 0 0 u v) (H3 : lo ≤ x ∧ x < l1 ∧ l1 ≤ h1 ∧ h1 ≤ hi) : TT t Z 2 x 0 d 0 lo hi 0 0 u v
  | name {x lo hi d u : Int} (H0 : t 0 x = 35) (H1 : lo ≤ x ∧ x < hi) : TT t Z 2 x 0 d 0 lo hi 0 0 u u
  | call {x a d l1 h1 u v lo hi : Int} (H0 : t 0 x = 36) (H1 : t 2 x = a) (H2 : TT t Z 106 a 0 d 0 l1 h1 0 0 u v) (H3 : lo ≤ x ∧ x < l1 ∧ l1 ≤ h1 ∧ h1 ≤ hi) : TT t Z 2 x 0 d 0 lo hi 0 0 u v
  | byt {x a b d l1 h1 u m l2 h2 v lo hi : Int} (H0 : t 0 x = 37) (H1 : t 1 x = a) (H2 : t 2 x = b) (H3 : TT t Z 1 a 0 (d + 1) 1 l1 h1 0 0 u m) (H4 : TT t Z 106 b 0 d 0 l2 h2 0 0 m v) (H5 : lo ≤ l1 ∧ l1 ≤ h1 ∧ h1 ≤ x ∧ x < l2 ∧ l2 ≤ h2 ∧ h2 ≤ hi) (H6 : u ≤ m ∧ m ≤ v) : TT t Z 2 x 0 d 0 lo hi 0 0 u v
  | func {x k a d l1 h1 u v lo hi : Int} (H0 : t 0 x = 38) (H1 : t 1 x = k) (H2 : 0 ≤ k ∧ k ≤ 8) (H3 : t 2 x = a) (H4 : TT t Z 1 a 0 (d + 1) 1 l1 h1 0 0 u v) (H5 : lo ≤ x ∧ x < l1 ∧ l1 ≤ h1 ∧ h1 ≤ hi) : TT t Z 2 x 0 d 0 lo hi 0 0 u v
  | word {x a d l1 h1 u v lo hi : Int} (H0 : t 0 x = 39) (H1 : t 1 x = a) (H2 : TT t Z 1 a 0 (d + 1) 1 l1 h1 0 0 u v) (H3 : lo ≤ l1 ∧ l1 ≤ h1 ∧ h1 ≤ x ∧ x < hi) : TT t Z 2 x 0 d 0 lo hi 0 0 u v
  | pt {x a lo hi d u : Int} (H0 : t 0 x = 42) (H1 : t 1 x = a) (H2 : 0 ≤ a ∧ a < 17000) (H3 : lo ≤ x ∧ x < hi) : TT t Z 3 x 0 d 0 lo hi 0 0 u u
  | ptby {x a d l1 h1 u v lo hi : Int} (H0 : t 0 x = 43) (H1 : t 1 x = a) (H2 : TT t Z 1 a 0 (d + 1) 1 l1 h1 0 0 u v) (H3 : lo ≤ x ∧ x < l1 ∧ l1 ≤ h1 ∧ h1 ≤ hi) : TT t Z 3 x 0 d 0 lo hi 0 0 u v
  | gp {x a nx d l1 h1 u m l2 h2 v lo hi : Int} (H0 : t 0 x = 44) (H1 : t 1 x = a) (H2 : a ≠ 0) (H3 : t 5 a = nx) (H4 : TT t Z 5 a 0 d 0 l1 h1 0 0 u m) (H5 : TT t Z 105 nx 0 d 0 l2 h2 0 0 m v) (H6 : lo ≤ l1 ∧ l1 ≤ a ∧ a < h1 ∧ h1 ≤ x ∧ x < l2 ∧ l2 ≤ h2 ∧ h2 ≤ hi) (H7 : u ≤ m ∧ m ≤ v) : TT t Z 4 x 0 d 0 lo hi 0 0 u v
  | apc {x a d l1 h1 u v lo hi : Int} (H0 : t 0 x = 45) (H1 : t 2 x = a) (H2 : TT t Z 106 a 0 d 0 l1 h1 0 0 u v) (H3 : lo ≤ x ∧ x < l1 ∧ l1 ≤ h1 ∧ h1 ≤ hi) : TT t Z 5 x 0 d 0 lo hi 0 0 u v
  | apb {x a b d l1 h1 u m l2 h2 v lo hi : Int} (H0 : t 0 x = 46) (H1 : t 1 x = a) (H2 : t 2 x = b) (H3 : TT t Z 1 a 0 (d + 1) 1 l1 h1 0 0 u m) (H4 : TT t Z 106 b 0 d 0 l2 h2 0 0 m v) (H5 : lo ≤ l1 ∧ l1 ≤ h1 ∧ h1 ≤ x ∧ x < l2 ∧ l2 ≤ h2 ∧ h2 ≤ hi) (H6 : u ≤ m ∧ m ≤ v) : TT t Z 5 x 0 d 0 lo hi 0 0 u v
  | aps {x a d l1 h1 u v lo hi : Int} (H0 : t 0 x = 47) (H1 : t 1 x = a) (H2 : TT t Z 10 a 0 d 0 l1 h1 0 0 u v) (H3 : lo ≤ l1 ∧ l1 ≤ h1 ∧ h1 ≤ x ∧ x < hi) : TT t Z 5 x 0 d 0 lo hi 0 0 u v
  | giv {x a d l1 h1 u v lo hi : Int} (H0 : t 0 x = 50) (H1 : t 1 x = a) (H2 : TT t Z 1 a 0 (d + 1) 1 l1 h1 0 0 u v) (H3 : lo ≤ l1 ∧ l1 ≤ h1 ∧ h1 ≤ x ∧ x < hi) : TT t Z 6 x 0 d 0 lo hi 0 0 u v
  | nam {x a d l1 h1 u v lo hi : Int} (H0 : t 0 x = 51) (H1 : t 1 x = a) (H2 : TT t Z 1 a 0 (d + 1) 1 l1 h1 0 0 u v) (H3 : lo ≤ x ∧ x < l1 ∧ l1 ≤ h1 ∧ h1 ≤ hi) : TT t Z 6 x 0 d 0 lo hi 0 0 u v
  | lk0 {x lo hi d u : Int} (H0 : t 0 x = 59) (H1 : t 1 x = 0) (H2 : lo ≤ x ∧ x < hi) : TT t Z 7 x 0 d 0 lo hi 0 0 u u
  | lk {x a d l1 h1 u v lo hi : Int} (H0 : t 0 x = 59) (H1 : t 1 x = a) (H2 : TT t Z 1 a 0 (d + 1) 1 l1 h1 0 0 u v) (H3 : lo ≤ l1 ∧ l1 ≤ h1 ∧ h1 ≤ x ∧ x < hi) : TT t Z 7 x 0 d 0 lo hi 0 0 u v
  | op0 {x a lo hi d u : Int} (H0 : t 0 x = 53) (H1 : t 1 x = a) (H2 : t 2 x = 0) (H3 : 3 ≤ a ∧ a ≤ 4) (H4 : lo ≤ x ∧ x < hi) : TT t Z 8 x 0 d 0 lo hi 0 0 u u
  | op {x k a d l1 h1 u v lo hi : Int} (H0 : t 0 x = 53) (H1 : t 1 x = k) (H2 : 0 ≤ k ∧ k ≤ 4) (H3 : t 2 x = a) (H4 : TT t Z 1 a 0 (d + 1) 1 l1 h1 0 0 u v) (H5 : lo ≤ x ∧ x < l1 ∧ l1 ≤ h1 ∧ h1 ≤ hi) : TT t Z 8 x 0 d 0 lo hi 0 0 u v
  | pm {x a b lo hi d u : Int} (H0 : t 0 x = 52) (H1 : t 1 x = a) (H2 : 0 ≤ a ∧ a < 17000) (H3 : t 2 x = b) (H4 : b = 0 ∨ b = -1) (H5 : lo ≤ x ∧ x < hi) : TT t Z 9 x 0 d 1 lo hi 0 0 u u
  | pmv {x a b d l1 h1 u v lo hi : Int} (H0 : t 0 x = 52) (H1 : t 1 x = a) (H2 : 0 ≤ a ∧ a < 17000) (H3 : t 2 x = b) (H4 : TT t Z 19 b 0 d 0 l1 h1 0 0 u v) (H5 : lo ≤ x ∧ x < l1 ∧ l1 ≤ h1 ∧ h1 ≤ hi) : TT t Z 9 x 0 d 1 lo hi 0 0 u v
  | subn {x a b c d l1 h1 u m d2 w2 l2 h2 v lo hi : Int} (H0 : t 0 x = 33) (H1 : t 1 x = a) (H2 : t 2 x = b) (H3 : t 3 x = c) (H4 : c ≤ 12) (H5 : TT t Z 109 b 0 d c l1 h1 0 0 u m) (H6 : TT t Z 11 a 0 d2 w2 l2 h2 l2 h2 m v) (H7 : w2 ≤ 20000) (H8 : lo ≤ x ∧ x < l1 ∧ l1 ≤ h1 ∧ h1 ≤ l2 ∧ l2 ≤ h2 ∧ h2 ≤ hi) (H9 : u ≤ m ∧ m ≤ v) : TT t Z 10 x 0 d 0 lo hi 0 0 u v
  | txt {x a d w l1 h1 p1 q1 u v lo hi p q : Int} (H0 : t 0 x = 9) (H1 : t 1 x = a) (H2 : TT t Z 112 a 0 d w l1 h1 p1 q1 u v) (H3 : lo ≤ l1 ∧ l1 ≤ h1 ∧ h1 ≤ hi ∧ p ≤ x ∧ x < p1 ∧ p1 ≤ q1 ∧ q1 ≤ q) (H4 : x < l1 ∨ h1 ≤ x) : TT t Z 11 x 0 d w lo hi p q u v
  | byte {x k p q lo hi d u : Int} (H0 : t 0 x = k) (H1 : k = 1 ∨ k = 2 ∨ k = 3) (H2 : p ≤ x ∧ x < q ∧ lo ≤ hi) : TT t Z 12 x 0 d 1 lo hi p q u u
  | expr {x a b i d l1 h1 u m l2 h2 v lo hi p q w : Int} (H0 : t 0 x = 4) (H1 : t 1 x = a) (H2 : t 2 x = b) (H3 : t 4 x = i) (H4 : rind i) (H5 : TT t Z 17 a 0 d 0 l1 h1 0 0 u m) (H6 : TT t Z 108 b 0 d 0 l2 h2 0 0 m v) (H7 : lo ≤ x ∧ x < l1 ∧ l1 ≤ h1 ∧ h1 ≤ l2 ∧ l2 ≤ h2 ∧ h2 ≤ hi ∧ p ≤ q) (H8 : h2 - x ≤ w) (H9 : u ≤ m ∧ m ≤ v) : TT t Z 12 x 0 d w lo hi p q u v
  | ife {x a d w1 l1 h1 p1 q1 u v lo hi p q w : Int} (H0 : t 0 x = 5) (H1 : t 1 x = a) (H2 : TT t Z 113 a 0 d w1 l1 h1 p1 q1 u v) (H3 : lo ≤ l1 ∧ l1 ≤ h1 ∧ h1 ≤ hi ∧ p ≤ x ∧ x < p1 ∧ p1 ≤ q1 ∧ q1 ≤ q) (H4 : x < l1 ∨ h1 ≤ x) (H5 : w = w1 + 1 ∧ 0 ≤ w1) : TT t Z 12 x 0 d w lo hi p q u v
  | part {x c i u lo hi p q d : Int} (H0 : t 0 x = 6) (H1 : t 3 x = c) (H2 : t 4 x = i) (H3 : rind i) (H4 : 0 ≤ c ∧ c < 320) (H5 : t 31 u = x) (H6 : t 2 x = 0) (H7 : lo ≤ x ∧ x < hi ∧ p ≤ q) : TT t Z 12 x 0 d 1 lo hi p q u (u + 1)
  | part2 {x c i u b d2 w2 l1 h1 p1 q1 v w lo hi p q d : Int} (H0 : t 0 x = 6) (H1 : t 3 x = c) (H2 : t 4 x = i) (H3 : rind i) (H4 : 0 ≤ c ∧ c < 320) (H5 : t 31 u = x) (H6 : t 2 x = b) (H7 : TT t Z 11 b 0 d2 w2 l1 h1 p1 q1 (u + 1) v) (H8 : w2 ≤ 20000 ∧ 1 ≤ w) (H9 : lo ≤ x ∧ x < l1 ∧ l1 ≤ h1 ∧ h1 ≤ hi ∧ p ≤ q ∧ u + 1 ≤ v) (H10 : p ≤ p1 ∧ p1 ≤ q1 ∧ q1 ≤ q ∨ lo ≤ p1 ∧ p1 ≤ q1 ∧ q1 ≤ hi) (H11 : x < p1 ∨ q1 ≤ x) : TT t Z 12 x 0 d w lo hi p q u v
  | sup {x c i lo hi p q d u : Int} (H0 : t 0 x = 7) (H1 : t 3 x = c) (H2 : t 4 x = i) (H3 : rind i) (H4 : 0 ≤ c ∧ c < 320) (H5 : lo ≤ x ∧ x < hi ∧ p ≤ q) : TT t Z 12 x 0 d 1 lo hi p q u u
  | br {x a b d l1 h1 u m w2 l2 h2 p1 q1 v lo hi p q w : Int} (H0 : t 0 x = 8) (H1 : t 1 x = a) (H2 : t 2 x = b) (H3 : TT t Z 20 a 0 d 0 l1 h1 0 0 u m) (H4 : TT t Z 11 b 0 (d + 1) w2 l2 h2 p1 q1 m v) (H5 : lo ≤ l1 ∧ l1 ≤ h1 ∧ h1 ≤ l2 ∧ l2 ≤ h2 ∧ h2 ≤ hi ∧ p ≤ x ∧ x < p1 ∧ p1 ≤ q1 ∧ q1 ≤ q) (H6 : (x < l1 ∨ h1 ≤ x) ∧ (x < l2 ∨ h2 ≤ x)) (H7 : w = w2 + (h1 - l1) + 1 ∧ 0 ≤ w2) (H8 : u ≤ m ∧ m ≤ v) : TT t Z 13 x 0 d w lo hi p q u v
  | co0 {lo hi d u : Int} (H0 : lo ≤ hi) : TT t Z 20 0 0 d 0 lo hi 0 0 u u
  | co1 {x d lo hi u v : Int} (H0 : TT t Z 14 x 0 d 0 lo hi 0 0 u v) : TT t Z 20 x 0 d 0 lo hi 0 0 u v
  | c45 {x d lo hi u v : Int} (H0 : TT t Z 15 x 0 d 0 lo hi 0 0 u v) : TT t Z 14 x 0 d 0 lo hi 0 0 u v
  | c56 {x d lo hi u v : Int} (H0 : TT t Z 16 x 0 d 0 lo hi 0 0 u v) : TT t Z 15 x 0 d 0 lo hi 0 0 u v
  | eith {x a nx d l1 h1 u m l2 h2 v lo hi : Int} (H0 : t 0 x = 55) (H1 : t 1 x = a) (H2 : a ≠ 0) (H3 : t 5 a = nx) (H4 : TT t Z 15 a 0 d 0 l1 h1 0 0 u m) (H5 : TT t Z 115 nx 0 d 0 l2 h2 0 0 m v) (H6 : lo ≤ l1 ∧ l1 ≤ a ∧ a < h1 ∧ h1 ≤ x ∧ x < l2 ∧ l2 ≤ h2 ∧ h2 ≤ hi) (H7 : u ≤ m ∧ m ≤ v) : TT t Z 14 x 0 d 0 lo hi 0 0 u v
  | both {x a nx d l1 h1 u m l2 h2 v lo hi : Int} (H0 : t 0 x = 56) (H1 : t 1 x = a) (H2 : a ≠ 0) (H3 : t 5 a = nx) (H4 : TT t Z 16 a 0 d 0 l1 h1 0 0 u m) (H5 : TT t Z 116 nx 0 d 0 l2 h2 0 0 m v) (H6 : lo ≤ l1 ∧ l1 ≤ a ∧ a < h1 ∧ h1 ≤ x ∧ x < l2 ∧ l2 ≤ h2 ∧ h2 ≤ hi) (H7 : u ≤ m ∧ m ≤ v) : TT t Z 15 x 0 d 0 lo hi 0 0 u v
  | not {x a d l1 h1 u v lo hi : Int} (H0 : t 0 x = 57) (H1 : t 1 x = a) (H2 : TT t Z 16 a 0 (d + 1) 0 l1 h1 0 0 u v) (H3 : lo ≤ l1 ∧ l1 ≤ h1 ∧ h1 ≤ x ∧ x < hi) : TT t Z 16 x 0 d 0 lo hi 0 0 u v
  | clk {x a d l1 h1 u v lo hi : Int} (H0 : t 0 x = 59) (H1 : t 1 x = a) (H2 : TT t Z 14 a 0 (d + 1) 0 l1 h1 0 0 u v) (H3 : lo ≤ l1 ∧ l1 ≤ h1 ∧ h1 ≤ x ∧ x < hi) : TT t Z 16 x 0 d 0 lo hi 0 0 u v
  | ask {x a d l1 h1 u v lo hi : Int} (H0 : t 0 x = 58) (H1 : t 1 x = a) (H2 : TT t Z 1 a 0 d 1 l1 h1 0 0 u v) (H3 : lo ≤ l1 ∧ l1 ≤ h1 ∧ h1 ≤ x ∧ x < hi) : TT t Z 16 x 0 d 0 lo hi 0 0 u v
  | ent {x a b c d l1 h1 u v lo hi : Int} (H0 : t 0 x = 54) (H1 : t 1 x = a) (H2 : t 2 x = b) (H3 : 0 ≤ a ∧ 0 ≤ b ∧ b ≤ 4000 ∧ a + b ≤ 60000) (H4 : t 3 x = c) (H5 : TT t Z 19 c 0 d 0 l1 h1 0 0 u v) (H6 : lo ≤ x ∧ x < l1 ∧ l1 ≤ h1 ∧ h1 ≤ hi) : TT t Z 18 x 0 d 1 lo hi 0 0 u v
  | vstr {x a b lo hi d u : Int} (H0 : t 0 x = 30) (H1 : t 1 x = a) (H2 : t 2 x = b) (H3 : 0 ≤ a ∧ 0 ≤ b ∧ b ≤ 4000 ∧ a + b ≤ 60000) (H4 : lo ≤ x ∧ x < hi) : TT t Z 19 x 0 d 0 lo hi 0 0 u u
  | vtru {x k lo hi d u : Int} (H0 : t 0 x = k) (H1 : k = 31 ∨ k = 32 ∨ k = 34 ∨ k = 56) (H2 : lo ≤ x ∧ x < hi) : TT t Z 19 x 0 d 0 lo hi 0 0 u u
  | vsub {x d lo hi u v : Int} (H0 : TT t Z 10 x 0 d 0 lo hi 0 0 u v) : TT t Z 19 x 0 d 0 lo hi 0 0 u v
theorem TT.le {t : Nat → Int → Int} {Z : Int → Int → Prop} {S : Nat} {x y d w lo hi p q u v : Int} (h : TT t Z S x y d w lo hi p q u v) : lo ≤ hi ∧ p ≤ q ∧ u ≤ v ∧ 0 ≤ w := by
  induction h with
  | nil H0 H1 => omega
  | cons H0 H1 H2 H3 H4 H5 H6 H7 H8 ih3 ih4 => omega
  | item H0 H1 H2 H3 H4 H5 H6 H7 H8 H9 ih5 ih6 ih7 => omega
  | zone H0 ih0 => omega
  | zip H0 H1 H2 H3 H4 H5 H6 H7 H8 H9 H10 H11 H12 H13 ih8 ih9 => omega
  | str H0 H1 H2 H3 H4 => omega
  | tru H0 H1 H2 => omega
  | psub H0 ih0 => omega
  | row H0 H1 H2 H3 ih2 => omega
  | name H0 H1 => omega
  | call H0 H1 H2 H3 ih2 => omega
  | byt H0 H1 H2 H3 H4 H5 H6 ih3 ih4 => omega
  | func H0 H1 H2 H3 H4 H5 ih4 => omega
  | word H0 H1 H2 H3 ih2 => omega
  | pt H0 H1 H2 H3 => omega
  | ptby H0 H1 H2 H3 ih2 => omega
  | gp H0 H1 H2 H3 H4 H5 H6 H7 ih4 ih5 => omega
  | apc H0 H1 H2 H3 ih2 => omega
  | apb H0 H1 H2 H3 H4 H5 H6 ih3 ih4 => omega
  | aps H0 H1 H2 H3 ih2 => omega
  | giv H0 H1 H2 H3 ih2 => omega
  | nam H0 H1 H2 H3 ih2 => omega
  | lk0 H0 H1 H2 => omega
  | lk H0 H1 H2 H3 ih2 => omega
  | op0 H0 H1 H2 H3 H4 => omega
  | op H0 H1 H2 H3 H4 H5 ih4 => omega
  | pm H0 H1 H2 H3 H4 H5 => omega
  | pmv H0 H1 H2 H3 H4 H5 ih4 => omega
  | subn H0 H1 H2 H3 H4 H5 H6 H7 H8 H9 ih5 ih6 => omega
  | txt H0 H1 H2 H3 H4 ih2 => omega
  | byte H0 H1 H2 => omega
  | expr H0 H1 H2 H3 H4 H5 H6 H7 H8 H9 ih5 ih6 => omega
  | ife H0 H1 H2 H3 H4 H5 ih2 => omega
  | part H0 H1 H2 H3 H4 H5 H6 H7 => omega
  | part2 H0 H1 H2 H3 H4 H5 H6 H7 H8 H9 H10 H11 ih7 => omega
  | sup H0 H1 H2 H3 H4 H5 => omega
  | br H0 H1 H2 H3 H4 H5 H6 H7 H8 ih3 ih4 => omega
  | co0 H0 => omega
  | co1 H0 ih0 => omega
  | c45 H0 ih0 => omega
  | c56 H0 ih0 => omega
  | eith H0 H1 H2 H3 H4 H5 H6 H7 ih4 ih5 => omega
  | both H0 H1 H2 H3 H4 H5 H6 H7 ih4 ih5 => omega
  | not H0 H1 H2 H3 ih2 => omega
  | clk H0 H1 H2 H3 ih2 => omega
  | ask H0 H1 H2 H3 ih2 => omega
  | ent H0 H1 H2 H3 H4 H5 H6 ih5 => omega
  | vstr H0 H1 H2 H3 H4 => omega
  | vtru H0 H1 H2 => omega
  | vsub H0 ih0 => omega
theorem TT.fr {t t' : Nat → Int → Int} {Z Z' : Int → Int → Prop} {S : Nat} {x y d w lo hi p q u v : Int} (h : TT t Z S x y d w lo hi p q u v) (hf : ∀ f i, (f < 6 ∧ (lo ≤ i ∧ i < hi ∨ p ≤ i ∧ i < q) ∨ f = 31 ∧ u ≤ i ∧ i < v) → t' f i = t f i) (hZ : ∀ s n, s ≠ 0 → Z s n → Z' s n) : TT t' Z' S x y d w lo hi p q u v := by
  induction h with
  | nil H0 H1 => exact TT.nil H0 H1
  | cons H0 H1 H2 H3 H4 H5 H6 H7 H8 ih3 ih4 => exact TT.cons H0 H1 ((hf _ _ (by omega)).trans H2) (ih3 (fun f i hi => hf f i (by omega))) (ih4 (fun f i hi => hf f i (by omega))) H5 H6 H7 H8
  | item H0 H1 H2 H3 H4 H5 H6 H7 H8 H9 ih5 ih6 ih7 => exact TT.item H0 ((hf _ _ (by omega)).trans H1) ((hf _ _ (by omega)).trans H2) ((hf _ _ (by omega)).trans H3) ((hf _ _ (by omega)).trans H4) (ih5 (fun f i hi => hf f i (by omega))) (ih6 (fun f i hi => hf f i (by omega))) (ih7 (fun f i hi => hf f i (by omega))) H8 H9
  | zone H0 ih0 => exact TT.zone (ih0 (fun f i hi => hf f i (by omega)))
  | zip H0 H1 H2 H3 H4 H5 H6 H7 H8 H9 H10 H11 H12 H13 ih8 ih9 => exact TT.zip H0 ((hf _ _ (by omega)).trans H1) ((hf _ _ (by omega)).trans H2) ((hf _ _ (by omega)).trans H3) ((hf _ _ (by omega)).trans H4) ((hf _ _ (by omega)).trans H5) ((hf _ _ (by omega)).trans H6) ((hf _ _ (by omega)).trans H7) (ih8 (fun f i hi => hf f i (by omega))) (ih9 (fun f i hi => hf f i (by omega))) H10 (hZ _ _ H10 H11) H12 H13
  | str H0 H1 H2 H3 H4 => exact TT.str ((hf _ _ (by omega)).trans H0) ((hf _ _ (by omega)).trans H1) ((hf _ _ (by omega)).trans H2) H3 H4
  | tru H0 H1 H2 => exact TT.tru ((hf _ _ (by omega)).trans H0) H1 H2
  | psub H0 ih0 => exact TT.psub (ih0 (fun f i hi => hf f i (by omega)))
  | row H0 H1 H2 H3 ih2 => exact TT.row ((hf _ _ (by omega)).trans H0) ((hf _ _ (by omega)).trans H1) (ih2 (fun f i hi => hf f i (by omega))) H3
  | name H0 H1 => exact TT.name ((hf _ _ (by omega)).trans H0) H1
  | call H0 H1 H2 H3 ih2 => exact TT.call ((hf _ _ (by omega)).trans H0) ((hf _ _ (by omega)).trans H1) (ih2 (fun f i hi => hf f i (by omega))) H3
  | byt H0 H1 H2 H3 H4 H5 H6 ih3 ih4 => exact TT.byt ((hf _ _ (by omega)).trans H0) ((hf _ _ (by omega)).trans H1) ((hf _ _ (by omega)).trans H2) (ih3 (fun f i hi => hf f i (by omega))) (ih4 (fun f i hi => hf f i (by omega))) H5 H6
  | func H0 H1 H2 H3 H4 H5 ih4 => exact TT.func ((hf _ _ (by omega)).trans H0) ((hf _ _ (by omega)).trans H1) H2 ((hf _ _ (by omega)).trans H3) (ih4 (fun f i hi => hf f i (by omega))) H5
  | word H0 H1 H2 H3 ih2 => exact TT.word ((hf _ _ (by omega)).trans H0) ((hf _ _ (by omega)).trans H1) (ih2 (fun f i hi => hf f i (by omega))) H3
  | pt H0 H1 H2 H3 => exact TT.pt ((hf _ _ (by omega)).trans H0) ((hf _ _ (by omega)).trans H1) H2 H3
  | ptby H0 H1 H2 H3 ih2 => exact TT.ptby ((hf _ _ (by omega)).trans H0) ((hf _ _ (by omega)).trans H1) (ih2 (fun f i hi => hf f i (by omega))) H3
  | gp H0 H1 H2 H3 H4 H5 H6 H7 ih4 ih5 => exact TT.gp ((hf _ _ (by omega)).trans H0) ((hf _ _ (by omega)).trans H1) H2 ((hf _ _ (by omega)).trans H3) (ih4 (fun f i hi => hf f i (by omega))) (ih5 (fun f i hi => hf f i (by omega))) H6 H7
  | apc H0 H1 H2 H3 ih2 => exact TT.apc ((hf _ _ (by omega)).trans H0) ((hf _ _ (by omega)).trans H1) (ih2 (fun f i hi => hf f i (by omega))) H3
  | apb H0 H1 H2 H3 H4 H5 H6 ih3 ih4 => exact TT.apb ((hf _ _ (by omega)).trans H0) ((hf _ _ (by omega)).trans H1) ((hf _ _ (by omega)).trans H2) (ih3 (fun f i hi => hf f i (by omega))) (ih4 (fun f i hi => hf f i (by omega))) H5 H6
  | aps H0 H1 H2 H3 ih2 => exact TT.aps ((hf _ _ (by omega)).trans H0) ((hf _ _ (by omega)).trans H1) (ih2 (fun f i hi => hf f i (by omega))) H3
  | giv H0 H1 H2 H3 ih2 => exact TT.giv ((hf _ _ (by omega)).trans H0) ((hf _ _ (by omega)).trans H1) (ih2 (fun f i hi => hf f i (by omega))) H3
  | nam H0 H1 H2 H3 ih2 => exact TT.nam ((hf _ _ (by omega)).trans H0) ((hf _ _ (by omega)).trans H1) (ih2 (fun f i hi => hf f i (by omega))) H3
  | lk0 H0 H1 H2 => exact TT.lk0 ((hf _ _ (by omega)).trans H0) ((hf _ _ (by omega)).trans H1) H2
  | lk H0 H1 H2 H3 ih2 => exact TT.lk ((hf _ _ (by omega)).trans H0) ((hf _ _ (by omega)).trans H1) (ih2 (fun f i hi => hf f i (by omega))) H3
  | op0 H0 H1 H2 H3 H4 => exact TT.op0 ((hf _ _ (by omega)).trans H0) ((hf _ _ (by omega)).trans H1) ((hf _ _ (by omega)).trans H2) H3 H4
  | op H0 H1 H2 H3 H4 H5 ih4 => exact TT.op ((hf _ _ (by omega)).trans H0) ((hf _ _ (by omega)).trans H1) H2 ((hf _ _ (by omega)).trans H3) (ih4 (fun f i hi => hf f i (by omega))) H5
  | pm H0 H1 H2 H3 H4 H5 => exact TT.pm ((hf _ _ (by omega)).trans H0) ((hf _ _ (by omega)).trans H1) H2 ((hf _ _ (by omega)).trans H3) H4 H5
  | pmv H0 H1 H2 H3 H4 H5 ih4 => exact TT.pmv ((hf _ _ (by omega)).trans H0) ((hf _ _ (by omega)).trans H1) H2 ((hf _ _ (by omega)).trans H3) (ih4 (fun f i hi => hf f i (by omega))) H5
  | subn H0 H1 H2 H3 H4 H5 H6 H7 H8 H9 ih5 ih6 => exact TT.subn ((hf _ _ (by omega)).trans H0) ((hf _ _ (by omega)).trans H1) ((hf _ _ (by omega)).trans H2) ((hf _ _ (by omega)).trans H3) H4 (ih5 (fun f i hi => hf f i (by omega))) (ih6 (fun f i hi => hf f i (by omega))) H7 H8 H9
  | txt H0 H1 H2 H3 H4 ih2 => exact TT.txt ((hf _ _ (by omega)).trans H0) ((hf _ _ (by omega)).trans H1) (ih2 (fun f i hi => hf f i (by omega))) H3 H4
  | byte H0 H1 H2 => exact TT.byte ((hf _ _ (by omega)).trans H0) H1 H2
  | expr H0 H1 H2 H3 H4 H5 H6 H7 H8 H9 ih5 ih6 => exact TT.expr ((hf _ _ (by omega)).trans H0) ((hf _ _ (by omega)).trans H1) ((hf _ _ (by omega)).trans H2) ((hf _ _ (by omega)).trans H3) H4 (ih5 (fun f i hi => hf f i (by omega))) (ih6 (fun f i hi => hf f i (by omega))) H7 H8 H9
  | ife H0 H1 H2 H3 H4 H5 ih2 => exact TT.ife ((hf _ _ (by omega)).trans H0) ((hf _ _ (by omega)).trans H1) (ih2 (fun f i hi => hf f i (by omega))) H3 H4 H5
  | part H0 H1 H2 H3 H4 H5 H6 H7 => exact TT.part ((hf _ _ (by omega)).trans H0) ((hf _ _ (by omega)).trans H1) ((hf _ _ (by omega)).trans H2) H3 H4 ((hf _ _ (by omega)).trans H5) ((hf _ _ (by omega)).trans H6) H7
  | part2 H0 H1 H2 H3 H4 H5 H6 H7 H8 H9 H10 H11 ih7 => exact TT.part2 ((hf _ _ (by omega)).trans H0) ((hf _ _ (by omega)).trans H1) ((hf _ _ (by omega)).trans H2) H3 H4 ((hf _ _ (by omega)).trans H5) ((hf _ _ (by omega)).trans H6) (ih7 (fun f i hi => hf f i (by omega))) H8 H9 H10 H11
  | sup H0 H1 H2 H3 H4 H5 => exact TT.sup ((hf _ _ (by omega)).trans H0) ((hf _ _ (by omega)).trans H1) ((hf _ _ (by omega)).trans H2) H3 H4 H5
  | br H0 H1 H2 H3 H4 H5 H6 H7 H8 ih3 ih4 => exact TT.br ((hf _ _ (by omega)).trans H0) ((hf _ _ (by omega)).trans H1) ((hf _ _ (by omega)).trans H2) (ih3 (fun f i hi => hf f i (by omega))) (ih4 (fun f i hi => hf f i (by omega))) H5 H6 H7 H8
  | co0 H0 => exact TT.co0 H0
  | co1 H0 ih0 => exact TT.co1 (ih0 (fun f i hi => hf f i (by omega)))
  | c45 H0 ih0 => exact TT.c45 (ih0 (fun f i hi => hf f i (by omega)))
  | c56 H0 ih0 => exact TT.c56 (ih0 (fun f i hi => hf f i (by omega)))
  | eith H0 H1 H2 H3 H4 H5 H6 H7 ih4 ih5 => exact TT.eith ((hf _ _ (by omega)).trans H0) ((hf _ _ (by omega)).trans H1) H2 ((hf _ _ (by omega)).trans H3) (ih4 (fun f i hi => hf f i (by omega))) (ih5 (fun f i hi => hf f i (by omega))) H6 H7
  | both H0 H1 H2 H3 H4 H5 H6 H7 ih4 ih5 => exact TT.both ((hf _ _ (by omega)).trans H0) ((hf _ _ (by omega)).trans H1) H2 ((hf _ _ (by omega)).trans H3) (ih4 (fun f i hi => hf f i (by omega))) (ih5 (fun f i hi => hf f i (by omega))) H6 H7
  | not H0 H1 H2 H3 ih2 => exact TT.not ((hf _ _ (by omega)).trans H0) ((hf _ _ (by omega)).trans H1) (ih2 (fun f i hi => hf f i (by omega))) H3
  | clk H0 H1 H2 H3 ih2 => exact TT.clk ((hf _ _ (by omega)).trans H0) ((hf _ _ (by omega)).trans H1) (ih2 (fun f i hi => hf f i (by omega))) H3
  | ask H0 H1 H2 H3 ih2 => exact TT.ask ((hf _ _ (by omega)).trans H0) ((hf _ _ (by omega)).trans H1) (ih2 (fun f i hi => hf f i (by omega))) H3
  | ent H0 H1 H2 H3 H4 H5 H6 ih5 => exact TT.ent ((hf _ _ (by omega)).trans H0) ((hf _ _ (by omega)).trans H1) ((hf _ _ (by omega)).trans H2) H3 ((hf _ _ (by omega)).trans H4) (ih5 (fun f i hi => hf f i (by omega))) H6
  | vstr H0 H1 H2 H3 H4 => exact TT.vstr ((hf _ _ (by omega)).trans H0) ((hf _ _ (by omega)).trans H1) ((hf _ _ (by omega)).trans H2) H3 H4
  | vtru H0 H1 H2 => exact TT.vtru ((hf _ _ (by omega)).trans H0) H1 H2
  | vsub H0 ih0 => exact TT.vsub (ih0 (fun f i hi => hf f i (by omega)))
theorem TT.mono {t : Nat → Int → Int} {Z : Int → Int → Prop} {S : Nat} {x y d w lo hi p q u v lo' hi' p' q' : Int} (h : TT t Z S x y d w lo hi p q u v) (a : lo' ≤ lo) (b : hi ≤ hi') (c : p' ≤ p) (e : q ≤ q') (g : (p' = p ∧ q' = q) ∨ 11 ≤ S ∧ S ≤ 13 ∨ 112 ≤ S ∧ S ≤ 113) : TT t Z S x y d w lo' hi' p' q' u v := by
  induction h generalizing lo' hi' p' q' with
  | nil H0 H1 =>
    exact TT.nil H0 (by omega)
  | cons H0 H1 H2 H3 H4 H5 H6 H7 H8 ih3 ih4 => exact TT.cons H0 H1 H2 H3 H4 (by omega) H6 H7 H8
  | item H0 H1 H2 H3 H4 H5 H6 H7 H8 H9 ih5 ih6 ih7 =>
    obtain ⟨rfl, rfl⟩ : p' = 0 ∧ q' = 0 := by omega
    exact TT.item H0 H1 H2 H3 H4 H5 H6 H7 (by omega) H9
  | zone H0 ih0 =>
    obtain ⟨rfl, rfl⟩ : p' = 0 ∧ q' = 0 := by omega
    exact TT.zone (ih0 (by omega) (by omega) (by omega) (by omega) (by omega))
  | zip H0 H1 H2 H3 H4 H5 H6 H7 H8 H9 H10 H11 H12 H13 ih8 ih9 =>
    obtain ⟨rfl, rfl⟩ : p' = 0 ∧ q' = 0 := by omega
    exact TT.zip H0 H1 H2 H3 H4 H5 H6 H7 H8 H9 H10 H11 (by omega) H13
  | str H0 H1 H2 H3 H4 =>
    obtain ⟨rfl, rfl⟩ : p' = 0 ∧ q' = 0 := by omega
    exact TT.str H0 H1 H2 H3 (by omega)
  | tru H0 H1 H2 =>
    obtain ⟨rfl, rfl⟩ : p' = 0 ∧ q' = 0 := by omega
    exact TT.tru H0 H1 (by omega)
  | psub H0 ih0 =>
    obtain ⟨rfl, rfl⟩ : p' = 0 ∧ q' = 0 := by omega
    exact TT.psub (ih0 (by omega) (by omega) (by omega) (by omega) (by omega))
  | row H0 H1 H2 H3 ih2 =>
    obtain ⟨rfl, rfl⟩ : p' = 0 ∧ q' = 0 := by omega
    exact TT.row H0 H1 H2 (by omega)
  | name H0 H1 =>
    obtain ⟨rfl, rfl⟩ : p' = 0 ∧ q' = 0 := by omega
    exact TT.name H0 (by omega)
  | call H0 H1 H2 H3 ih2 =>
    obtain ⟨rfl, rfl⟩ : p' = 0 ∧ q' = 0 := by omega
    exact TT.call H0 H1 H2 (by omega)
  | byt H0 H1 H2 H3 H4 H5 H6 ih3 ih4 =>
    obtain ⟨rfl, rfl⟩ : p' = 0 ∧ q' = 0 := by omega
    exact TT.byt H0 H1 H2 H3 H4 (by omega) H6
  | func H0 H1 H2 H3 H4 H5 ih4 =>
    obtain ⟨rfl, rfl⟩ : p' = 0 ∧ q' = 0 := by omega
    exact TT.func H0 H1 H2 H3 H4 (by omega)
  | word H0 H1 H2 H3 ih2 =>
    obtain ⟨rfl, rfl⟩ : p' = 0 ∧ q' = 0 := by omega
    exact TT.word H0 H1 H2 (by omega)
  | pt H0 H1 H2 H3 =>
    obtain ⟨rfl, rfl⟩ : p' = 0 ∧ q' = 0 := by omega
    exact TT.pt H0 H1 H2 (by omega)
  | ptby H0 H1 H2 H3 ih2 =>
    obtain ⟨rfl, rfl⟩ : p' = 0 ∧ q' = 0 := by omega
    exact TT.ptby H0 H1 H2 (by omega)
  | gp H0 H1 H2 H3 H4 H5 H6 H7 ih4 ih5 =>
    obtain ⟨rfl, rfl⟩ : p' = 0 ∧ q' = 0 := by omega
    exact TT.gp H0 H1 H2 H3 H4 H5 (by omega) H7
  | apc H0 H1 H2 H3 ih2 =>
    obtain ⟨rfl, rfl⟩ : p' = 0 ∧ q' = 0 := by omega
    exact TT.apc H0 H1 H2 (by omega)
  | apb H0 H1 H2 H3 H4 H5 H6 ih3 ih4 =>
    obtain ⟨rfl, rfl⟩ : p' = 0 ∧ q' = 0 := by omega
    exact TT.apb H0 H1 H2 H3 H4 (by omega) H6
  | aps H0 H1 H2 H3 ih2 =>
    obtain ⟨rfl, rfl⟩ : p' = 0 ∧ q' = 0 := by omega
    exact TT.aps H0 H1 H2 (by omega)
  | giv H0 H1 H2 H3 ih2 =>
    obtain ⟨rfl, rfl⟩ : p' = 0 ∧ q' = 0 := by omega
    exact TT.giv H0 H1 H2 (by omega)
  | nam H0 H1 H2 H3 ih2 =>
    obtain ⟨rfl, rfl⟩ : p' = 0 ∧ q' = 0 := by omega
    exact TT.nam H0 H1 H2 (by omega)
  | lk0 H0 H1 H2 =>
    obtain ⟨rfl, rfl⟩ : p' = 0 ∧ q' = 0 := by omega
    exact TT.lk0 H0 H1 (by omega)
  | lk H0 H1 H2 H3 ih2 =>
    obtain ⟨rfl, rfl⟩ : p' = 0 ∧ q' = 0 := by omega
    exact TT.lk H0 H1 H2 (by omega)
  | op0 H0 H1 H2 H3 H4 =>
    obtain ⟨rfl, rfl⟩ : p' = 0 ∧ q' = 0 := by omega
    exact TT.op0 H0 H1 H2 H3 (by omega)
  | op H0 H1 H2 H3 H4 H5 ih4 =>
    obtain ⟨rfl, rfl⟩ : p' = 0 ∧ q' = 0 := by omega
    exact TT.op H0 H1 H2 H3 H4 (by omega)
  | pm H0 H1 H2 H3 H4 H5 =>
    obtain ⟨rfl, rfl⟩ : p' = 0 ∧ q' = 0 := by omega
    exact TT.pm H0 H1 H2 H3 H4 (by omega)
  | pmv H0 H1 H2 H3 H4 H5 ih4 =>
    obtain ⟨rfl, rfl⟩ : p' = 0 ∧ q' = 0 := by omega
    exact TT.pmv H0 H1 H2 H3 H4 (by omega)
  | subn H0 H1 H2 H3 H4 H5 H6 H7 H8 H9 ih5 ih6 =>
    obtain ⟨rfl, rfl⟩ : p' = 0 ∧ q' = 0 := by omega
    exact TT.subn H0 H1 H2 H3 H4 H5 H6 H7 (by omega) H9
  | txt H0 H1 H2 H3 H4 ih2 =>
    exact TT.txt H0 H1 H2 (by omega) H4
  | byte H0 H1 H2 =>
    exact TT.byte H0 H1 (by omega)
  | expr H0 H1 H2 H3 H4 H5 H6 H7 H8 H9 ih5 ih6 =>
    exact TT.expr H0 H1 H2 H3 H4 H5 H6 (by omega) H8 H9
  | ife H0 H1 H2 H3 H4 H5 ih2 =>
    exact TT.ife H0 H1 H2 (by omega) H4 H5
  | part H0 H1 H2 H3 H4 H5 H6 H7 =>
    exact TT.part H0 H1 H2 H3 H4 H5 H6 (by omega)
  | part2 H0 H1 H2 H3 H4 H5 H6 H7 H8 H9 H10 H11 ih7 =>
    exact TT.part2 H0 H1 H2 H3 H4 H5 H6 H7 H8 (by omega) (by omega) H11
  | sup H0 H1 H2 H3 H4 H5 =>
    exact TT.sup H0 H1 H2 H3 H4 (by omega)
  | br H0 H1 H2 H3 H4 H5 H6 H7 H8 ih3 ih4 =>
    exact TT.br H0 H1 H2 H3 H4 (by omega) H6 H7 H8
  | co0 H0 =>
    obtain ⟨rfl, rfl⟩ : p' = 0 ∧ q' = 0 := by omega
    exact TT.co0 (by omega)
  | co1 H0 ih0 =>
    obtain ⟨rfl, rfl⟩ : p' = 0 ∧ q' = 0 := by omega
    exact TT.co1 (ih0 (by omega) (by omega) (by omega) (by omega) (by omega))
  | c45 H0 ih0 =>
    obtain ⟨rfl, rfl⟩ : p' = 0 ∧ q' = 0 := by omega
    exact TT.c45 (ih0 (by omega) (by omega) (by omega) (by omega) (by omega))
  | c56 H0 ih0 =>
    obtain ⟨rfl, rfl⟩ : p' = 0 ∧ q' = 0 := by omega
    exact TT.c56 (ih0 (by omega) (by omega) (by omega) (by omega) (by omega))
  | eith H0 H1 H2 H3 H4 H5 H6 H7 ih4 ih5 =>
    obtain ⟨rfl, rfl⟩ : p' = 0 ∧ q' = 0 := by omega
    exact TT.eith H0 H1 H2 H3 H4 H5 (by omega) H7
  | both H0 H1 H2 H3 H4 H5 H6 H7 ih4 ih5 =>
    obtain ⟨rfl, rfl⟩ : p' = 0 ∧ q' = 0 := by omega
    exact TT.both H0 H1 H2 H3 H4 H5 (by omega) H7
  | not H0 H1 H2 H3 ih2 =>
    obtain ⟨rfl, rfl⟩ : p' = 0 ∧ q' = 0 := by omega
    exact TT.not H0 H1 H2 (by omega)
  | clk H0 H1 H2 H3 ih2 =>
    obtain ⟨rfl, rfl⟩ : p' = 0 ∧ q' = 0 := by omega
    exact TT.clk H0 H1 H2 (by omega)
  | ask H0 H1 H2 H3 ih2 =>
    obtain ⟨rfl, rfl⟩ : p' = 0 ∧ q' = 0 := by omega
    exact TT.ask H0 H1 H2 (by omega)
  | ent H0 H1 H2 H3 H4 H5 H6 ih5 =>
    obtain ⟨rfl, rfl⟩ : p' = 0 ∧ q' = 0 := by omega
    exact TT.ent H0 H1 H2 H3 H4 H5 (by omega)
  | vstr H0 H1 H2 H3 H4 =>
    obtain ⟨rfl, rfl⟩ : p' = 0 ∧ q' = 0 := by omega
    exact TT.vstr H0 H1 H2 H3 (by omega)
  | vtru H0 H1 H2 =>
    obtain ⟨rfl, rfl⟩ : p' = 0 ∧ q' = 0 := by omega
    exact TT.vtru H0 H1 (by omega)
  | vsub H0 ih0 =>
    obtain ⟨rfl, rfl⟩ : p' = 0 ∧ q' = 0 := by omega
    exact TT.vsub (ih0 (by omega) (by omega) (by omega) (by omega) (by omega))
theorem TT.fr5 {t t' : Nat → Int → Int} {Z : Int → Int → Prop} {S : Nat} {x y d w lo hi p q u v : Int} (h : TT t Z S x y d w lo hi p q u v) (hS : S < 100) (hf : ∀ f i, (f < 6 ∧ (lo ≤ i ∧ i < hi ∨ p ≤ i ∧ i < q) ∨ f = 31 ∧ u ≤ i ∧ i < v) → (f ≠ 5 ∨ i ≠ x) → t' f i = t f i) : TT t' Z S x y d w lo hi p q u v := by
  induction h with
  | nil H0 H1 => exact absurd H0 (by omega)
  | cons H0 H1 H2 H3 H4 H5 H6 H7 H8 ih3 ih4 => exact absurd H0 (by omega)
  | item H0 H1 H2 H3 H4 H5 H6 H7 H8 H9 ih5 ih6 ih7 => exact TT.item H0 ((hf _ _ (by omega) (by omega)).trans H1) ((hf _ _ (by omega) (by omega)).trans H2) ((hf _ _ (by omega) (by omega)).trans H3) ((hf _ _ (by omega) (by omega)).trans H4) (H5.fr (fun f i hi => hf f i (by omega) (by omega)) (fun _ _ _ h => h)) (H6.fr (fun f i hi => hf f i (by omega) (by omega)) (fun _ _ _ h => h)) (H7.fr (fun f i hi => hf f i (by omega) (by omega)) (fun _ _ _ h => h)) H8 H9
  | zone H0 ih0 => exact TT.zone (ih0 (by omega) hf)
  | zip H0 H1 H2 H3 H4 H5 H6 H7 H8 H9 H10 H11 H12 H13 ih8 ih9 => exact TT.zip H0 ((hf _ _ (by omega) (by omega)).trans H1) ((hf _ _ (by omega) (by omega)).trans H2) ((hf _ _ (by omega) (by omega)).trans H3) ((hf _ _ (by omega) (by omega)).trans H4) ((hf _ _ (by omega) (by omega)).trans H5) ((hf _ _ (by omega) (by omega)).trans H6) ((hf _ _ (by omega) (by omega)).trans H7) (H8.fr (fun f i hi => hf f i (by omega) (by omega)) (fun _ _ _ h => h)) (H9.fr (fun f i hi => hf f i (by omega) (by omega)) (fun _ _ _ h => h)) H10 H11 H12 H13
  | str H0 H1 H2 H3 H4 => exact TT.str ((hf _ _ (by omega) (by omega)).trans H0) ((hf _ _ (by omega) (by omega)).trans H1) ((hf _ _ (by omega) (by omega)).trans H2) H3 H4
  | tru H0 H1 H2 => exact TT.tru ((hf _ _ (by omega) (by omega)).trans H0) H1 H2
  | psub H0 ih0 => exact TT.psub (ih0 (by omega) hf)
  | row H0 H1 H2 H3 ih2 => exact TT.row ((hf _ _ (by omega) (by omega)).trans H0) ((hf _ _ (by omega) (by omega)).trans H1) (H2.fr (fun f i hi => hf f i (by omega) (by omega)) (fun _ _ _ h => h)) H3
  | name H0 H1 => exact TT.name ((hf _ _ (by omega) (by omega)).trans H0) H1
  | call H0 H1 H2 H3 ih2 => exact TT.call ((hf _ _ (by omega) (by omega)).trans H0) ((hf _ _ (by omega) (by omega)).trans H1) (H2.fr (fun f i hi => hf f i (by omega) (by omega)) (fun _ _ _ h => h)) H3
  | byt H0 H1 H2 H3 H4 H5 H6 ih3 ih4 => exact TT.byt ((hf _ _ (by omega) (by omega)).trans H0) ((hf _ _ (by omega) (by omega)).trans H1) ((hf _ _ (by omega) (by omega)).trans H2) (H3.fr (fun f i hi => hf f i (by omega) (by omega)) (fun _ _ _ h => h)) (H4.fr (fun f i hi => hf f i (by omega) (by omega)) (fun _ _ _ h => h)) H5 H6
  | func H0 H1 H2 H3 H4 H5 ih4 => exact TT.func ((hf _ _ (by omega) (by omega)).trans H0) ((hf _ _ (by omega) (by omega)).trans H1) H2 ((hf _ _ (by omega) (by omega)).trans H3) (H4.fr (fun f i hi => hf f i (by omega) (by omega)) (fun _ _ _ h => h)) H5
  | word H0 H1 H2 H3 ih2 => exact TT.word ((hf _ _ (by omega) (by omega)).trans H0) ((hf _ _ (by omega) (by omega)).trans H1) (H2.fr (fun f i hi => hf f i (by omega) (by omega)) (fun _ _ _ h => h)) H3
  | pt H0 H1 H2 H3 => exact TT.pt ((hf _ _ (by omega) (by omega)).trans H0) ((hf _ _ (by omega) (by omega)).trans H1) H2 H3
  | ptby H0 H1 H2 H3 ih2 => exact TT.ptby ((hf _ _ (by omega) (by omega)).trans H0) ((hf _ _ (by omega) (by omega)).trans H1) (H2.fr (fun f i hi => hf f i (by omega) (by omega)) (fun _ _ _ h => h)) H3
  | gp H0 H1 H2 H3 H4 H5 H6 H7 ih4 ih5 => exact TT.gp ((hf _ _ (by omega) (by omega)).trans H0) ((hf _ _ (by omega) (by omega)).trans H1) H2 ((hf _ _ (by omega) (by omega)).trans H3) (H4.fr (fun f i hi => hf f i (by omega) (by omega)) (fun _ _ _ h => h)) (H5.fr (fun f i hi => hf f i (by omega) (by omega)) (fun _ _ _ h => h)) H6 H7
  | apc H0 H1 H2 H3 ih2 => exact TT.apc ((hf _ _ (by omega) (by omega)).trans H0) ((hf _ _ (by omega) (by omega)).trans H1) (H2.fr (fun f i hi => hf f i (by omega) (by omega)) (fun _ _ _ h => h)) H3
  | apb H0 H1 H2 H3 H4 H5 H6 ih3 ih4 => exact TT.apb ((hf _ _ (by omega) (by omega)).trans H0) ((hf _ _ (by omega) (by omega)).trans H1) ((hf _ _ (by omega) (by omega)).trans H2) (H3.fr (fun f i hi => hf f i (by omega) (by omega)) (fun _ _ _ h => h)) (H4.fr (fun f i hi => hf f i (by omega) (by omega)) (fun _ _ _ h => h)) H5 H6
  | aps H0 H1 H2 H3 ih2 => exact TT.aps ((hf _ _ (by omega) (by omega)).trans H0) ((hf _ _ (by omega) (by omega)).trans H1) (H2.fr (fun f i hi => hf f i (by omega) (by omega)) (fun _ _ _ h => h)) H3
  | giv H0 H1 H2 H3 ih2 => exact TT.giv ((hf _ _ (by omega) (by omega)).trans H0) ((hf _ _ (by omega) (by omega)).trans H1) (H2.fr (fun f i hi => hf f i (by omega) (by omega)) (fun _ _ _ h => h)) H3
  | nam H0 H1 H2 H3 ih2 => exact TT.nam ((hf _ _ (by omega) (by omega)).trans H0) ((hf _ _ (by omega) (by omega)).trans H1) (H2.fr (fun f i hi => hf f i (by omega) (by omega)) (fun _ _ _ h => h)) H3
  | lk0 H0 H1 H2 => exact TT.lk0 ((hf _ _ (by omega) (by omega)).trans H0) ((hf _ _ (by omega) (by omega)).trans H1) H2
  | lk H0 H1 H2 H3 ih2 => exact TT.lk ((hf _ _ (by omega) (by omega)).trans H0) ((hf _ _ (by omega) (by omega)).trans H1) (H2.fr (fun f i hi => hf f i (by omega) (by omega)) (fun _ _ _ h => h)) H3
  | op0 H0 H1 H2 H3 H4 => exact TT.op0 ((hf _ _ (by omega) (by omega)).trans H0) ((hf _ _ (by omega) (by omega)).trans H1) ((hf _ _ (by omega) (by omega)).trans H2) H3 H4
  | op H0 H1 H2 H3 H4 H5 ih4 => exact TT.op ((hf _ _ (by omega) (by omega)).trans H0) ((hf _ _ (by omega) (by omega)).trans H1) H2 ((hf _ _ (by omega) (by omega)).trans H3) (H4.fr (fun f i hi => hf f i (by omega) (by omega)) (fun _ _ _ h => h)) H5
  | pm H0 H1 H2 H3 H4 H5 => exact TT.pm ((hf _ _ (by omega) (by omega)).trans H0) ((hf _ _ (by omega) (by omega)).trans H1) H2 ((hf _ _ (by omega) (by omega)).trans H3) H4 H5
  | pmv H0 H1 H2 H3 H4 H5 ih4 => exact TT.pmv ((hf _ _ (by omega) (by omega)).trans H0) ((hf _ _ (by omega) (by omega)).trans H1) H2 ((hf _ _ (by omega) (by omega)).trans H3) (H4.fr (fun f i hi => hf f i (by omega) (by omega)) (fun _ _ _ h => h)) H5
  | subn H0 H1 H2 H3 H4 H5 H6 H7 H8 H9 ih5 ih6 => exact TT.subn ((hf _ _ (by omega) (by omega)).trans H0) ((hf _ _ (by omega) (by omega)).trans H1) ((hf _ _ (by omega) (by omega)).trans H2) ((hf _ _ (by omega) (by omega)).trans H3) H4 (H5.fr (fun f i hi => hf f i (by omega) (by omega)) (fun _ _ _ h => h)) (H6.fr (fun f i hi => hf f i (by omega) (by omega)) (fun _ _ _ h => h)) H7 H8 H9
  | txt H0 H1 H2 H3 H4 ih2 => exact TT.txt ((hf _ _ (by omega) (by omega)).trans H0) ((hf _ _ (by omega) (by omega)).trans H1) (H2.fr (fun f i hi => hf f i (by omega) (by omega)) (fun _ _ _ h => h)) H3 H4
  | byte H0 H1 H2 => exact TT.byte ((hf _ _ (by omega) (by omega)).trans H0) H1 H2
  | expr H0 H1 H2 H3 H4 H5 H6 H7 H8 H9 ih5 ih6 => exact TT.expr ((hf _ _ (by omega) (by omega)).trans H0) ((hf _ _ (by omega) (by omega)).trans H1) ((hf _ _ (by omega) (by omega)).trans H2) ((hf _ _ (by omega) (by omega)).trans H3) H4 (H5.fr (fun f i hi => hf f i (by omega) (by omega)) (fun _ _ _ h => h)) (H6.fr (fun f i hi => hf f i (by omega) (by omega)) (fun _ _ _ h => h)) H7 H8 H9
  | ife H0 H1 H2 H3 H4 H5 ih2 => exact TT.ife ((hf _ _ (by omega) (by omega)).trans H0) ((hf _ _ (by omega) (by omega)).trans H1) (H2.fr (fun f i hi => hf f i (by omega) (by omega)) (fun _ _ _ h => h)) H3 H4 H5
  | part H0 H1 H2 H3 H4 H5 H6 H7 => exact TT.part ((hf _ _ (by omega) (by omega)).trans H0) ((hf _ _ (by omega) (by omega)).trans H1) ((hf _ _ (by omega) (by omega)).trans H2) H3 H4 ((hf _ _ (by omega) (by omega)).trans H5) ((hf _ _ (by omega) (by omega)).trans H6) H7
  | part2 H0 H1 H2 H3 H4 H5 H6 H7 H8 H9 H10 H11 ih7 => exact TT.part2 ((hf _ _ (by omega) (by omega)).trans H0) ((hf _ _ (by omega) (by omega)).trans H1) ((hf _ _ (by omega) (by omega)).trans H2) H3 H4 ((hf _ _ (by omega) (by omega)).trans H5) ((hf _ _ (by omega) (by omega)).trans H6) (H7.fr (fun f i hi => hf f i (by omega) (by omega)) (fun _ _ _ h => h)) H8 H9 H10 H11
  | sup H0 H1 H2 H3 H4 H5 => exact TT.sup ((hf _ _ (by omega) (by omega)).trans H0) ((hf _ _ (by omega) (by omega)).trans H1) ((hf _ _ (by omega) (by omega)).trans H2) H3 H4 H5
  | br H0 H1 H2 H3 H4 H5 H6 H7 H8 ih3 ih4 => exact TT.br ((hf _ _ (by omega) (by omega)).trans H0) ((hf _ _ (by omega) (by omega)).trans H1) ((hf _ _ (by omega) (by omega)).trans H2) (H3.fr (fun f i hi => hf f i (by omega) (by omega)) (fun _ _ _ h => h)) (H4.fr (fun f i hi => hf f i (by omega) (by omega)) (fun _ _ _ h => h)) H5 H6 H7 H8
  | co0 H0 => exact TT.co0 H0
  | co1 H0 ih0 => exact TT.co1 (ih0 (by omega) hf)
  | c45 H0 ih0 => exact TT.c45 (ih0 (by omega) hf)
  | c56 H0 ih0 => exact TT.c56 (ih0 (by omega) hf)
  | eith H0 H1 H2 H3 H4 H5 H6 H7 ih4 ih5 => exact TT.eith ((hf _ _ (by omega) (by omega)).trans H0) ((hf _ _ (by omega) (by omega)).trans H1) H2 ((hf _ _ (by omega) (by omega)).trans H3) (H4.fr (fun f i hi => hf f i (by omega) (by omega)) (fun _ _ _ h => h)) (H5.fr (fun f i hi => hf f i (by omega) (by omega)) (fun _ _ _ h => h)) H6 H7
  | both H0 H1 H2 H3 H4 H5 H6 H7 ih4 ih5 => exact TT.both ((hf _ _ (by omega) (by omega)).trans H0) ((hf _ _ (by omega) (by omega)).trans H1) H2 ((hf _ _ (by omega) (by omega)).trans H3) (H4.fr (fun f i hi => hf f i (by omega) (by omega)) (fun _ _ _ h => h)) (H5.fr (fun f i hi => hf f i (by omega) (by omega)) (fun _ _ _ h => h)) H6 H7
  | not H0 H1 H2 H3 ih2 => exact TT.not ((hf _ _ (by omega) (by omega)).trans H0) ((hf _ _ (by omega) (by omega)).trans H1) (H2.fr (fun f i hi => hf f i (by omega) (by omega)) (fun _ _ _ h => h)) H3
  | clk H0 H1 H2 H3 ih2 => exact TT.clk ((hf _ _ (by omega) (by omega)).trans H0) ((hf _ _ (by omega) (by omega)).trans H1) (H2.fr (fun f i hi => hf f i (by omega) (by omega)) (fun _ _ _ h => h)) H3
  | ask H0 H1 H2 H3 ih2 => exact TT.ask ((hf _ _ (by omega) (by omega)).trans H0) ((hf _ _ (by omega) (by omega)).trans H1) (H2.fr (fun f i hi => hf f i (by omega) (by omega)) (fun _ _ _ h => h)) H3
  | ent H0 H1 H2 H3 H4 H5 H6 ih5 => exact TT.ent ((hf _ _ (by omega) (by omega)).trans H0) ((hf _ _ (by omega) (by omega)).trans H1) ((hf _ _ (by omega) (by omega)).trans H2) H3 ((hf _ _ (by omega) (by omega)).trans H4) (H5.fr (fun f i hi => hf f i (by omega) (by omega)) (fun _ _ _ h => h)) H6
  | vstr H0 H1 H2 H3 H4 => exact TT.vstr ((hf _ _ (by omega) (by omega)).trans H0) ((hf _ _ (by omega) (by omega)).trans H1) ((hf _ _ (by omega) (by omega)).trans H2) H3 H4
  | vtru H0 H1 H2 => exact TT.vtru ((hf _ _ (by omega) (by omega)).trans H0) H1 H2
  | vsub H0 ih0 => exact TT.vsub (ih0 (by omega) hf)
theorem TT.dd {t t' : Nat → Int → Int} {Z : Int → Int → Prop} {S : Nat} {x y d w lo hi p q u v : Int} (h : TT t Z S x y d w lo hi p q u v) (hf : ∀ f i, f ≠ 4 → t' f i = t f i) (hi4 : ∀ i, t' 4 i = t 4 i ∨ rind (t' 4 i)) : TT t' Z S x y d w lo hi p q u v := by
  induction h with
  | nil H0 H1 => exact TT.nil H0 H1
  | cons H0 H1 H2 H3 H4 H5 H6 H7 H8 ih3 ih4 => exact TT.cons H0 H1 ((hf _ _ (by decide)).trans H2) ih3 ih4 H5 H6 H7 H8
  | item H0 H1 H2 H3 H4 H5 H6 H7 H8 H9 ih5 ih6 ih7 => exact TT.item H0 ((hf _ _ (by decide)).trans H1) ((hf _ _ (by decide)).trans H2) ((hf _ _ (by decide)).trans H3) ((hf _ _ (by decide)).trans H4) ih5 ih6 ih7 H8 H9
  | zone H0 ih0 => exact TT.zone ih0
  | zip H0 H1 H2 H3 H4 H5 H6 H7 H8 H9 H10 H11 H12 H13 ih8 ih9 => exact TT.zip H0 ((hf _ _ (by decide)).trans H1) ((hf _ _ (by decide)).trans H2) ((hf _ _ (by decide)).trans H3) ((hf _ _ (by decide)).trans H4) ((hf _ _ (by decide)).trans H5) ((hf _ _ (by decide)).trans H6) ((hf _ _ (by decide)).trans H7) ih8 ih9 H10 H11 H12 H13
  | str H0 H1 H2 H3 H4 => exact TT.str ((hf _ _ (by decide)).trans H0) ((hf _ _ (by decide)).trans H1) ((hf _ _ (by decide)).trans H2) H3 H4
  | tru H0 H1 H2 => exact TT.tru ((hf _ _ (by decide)).trans H0) H1 H2
  | psub H0 ih0 => exact TT.psub ih0
  | row H0 H1 H2 H3 ih2 => exact TT.row ((hf _ _ (by decide)).trans H0) ((hf _ _ (by decide)).trans H1) ih2 H3
  | name H0 H1 => exact TT.name ((hf _ _ (by decide)).trans H0) H1
  | call H0 H1 H2 H3 ih2 => exact TT.call ((hf _ _ (by decide)).trans H0) ((hf _ _ (by decide)).trans H1) ih2 H3
  | byt H0 H1 H2 H3 H4 H5 H6 ih3 ih4 => exact TT.byt ((hf _ _ (by decide)).trans H0) ((hf _ _ (by decide)).trans H1) ((hf _ _ (by decide)).trans H2) ih3 ih4 H5 H6
  | func H0 H1 H2 H3 H4 H5 ih4 => exact TT.func ((hf _ _ (by decide)).trans H0) ((hf _ _ (by decide)).trans H1) H2 ((hf _ _ (by decide)).trans H3) ih4 H5
  | word H0 H1 H2 H3 ih2 => exact TT.word ((hf _ _ (by decide)).trans H0) ((hf _ _ (by decide)).trans H1) ih2 H3
  | pt H0 H1 H2 H3 => exact TT.pt ((hf _ _ (by decide)).trans H0) ((hf _ _ (by decide)).trans H1) H2 H3
  | ptby H0 H1 H2 H3 ih2 => exact TT.ptby ((hf _ _ (by decide)).trans H0) ((hf _ _ (by decide)).trans H1) ih2 H3
  | gp H0 H1 H2 H3 H4 H5 H6 H7 ih4 ih5 => exact TT.gp ((hf _ _ (by decide)).trans H0) ((hf _ _ (by decide)).trans H1) H2 ((hf _ _ (by decide)).trans H3) ih4 ih5 H6 H7
  | apc H0 H1 H2 H3 ih2 => exact TT.apc ((hf _ _ (by decide)).trans H0) ((hf _ _ (by decide)).trans H1) ih2 H3
  | apb H0 H1 H2 H3 H4 H5 H6 ih3 ih4 => exact TT.apb ((hf _ _ (by decide)).trans H0) ((hf _ _ (by decide)).trans H1) ((hf _ _ (by decide)).trans H2) ih3 ih4 H5 H6
  | aps H0 H1 H2 H3 ih2 => exact TT.aps ((hf _ _ (by decide)).trans H0) ((hf _ _ (by decide)).trans H1) ih2 H3
  | giv H0 H1 H2 H3 ih2 => exact TT.giv ((hf _ _ (by decide)).trans H0) ((hf _ _ (by decide)).trans H1) ih2 H3
  | nam H0 H1 H2 H3 ih2 => exact TT.nam ((hf _ _ (by decide)).trans H0) ((hf _ _ (by decide)).trans H1) ih2 H3
  | lk0 H0 H1 H2 => exact TT.lk0 ((hf _ _ (by decide)).trans H0) ((hf _ _ (by decide)).trans H1) H2
  | lk H0 H1 H2 H3 ih2 => exact TT.lk ((hf _ _ (by decide)).trans H0) ((hf _ _ (by decide)).trans H1) ih2 H3
  | op0 H0 H1 H2 H3 H4 => exact TT.op0 ((hf _ _ (by decide)).trans H0) ((hf _ _ (by decide)).trans H1) ((hf _ _ (by decide)).trans H2) H3 H4
  | op H0 H1 H2 H3 H4 H5 ih4 => exact TT.op ((hf _ _ (by decide)).trans H0) ((hf _ _ (by decide)).trans H1) H2 ((hf _ _ (by decide)).trans H3) ih4 H5
  | pm H0 H1 H2 H3 H4 H5 => exact TT.pm ((hf _ _ (by decide)).trans H0) ((hf _ _ (by decide)).trans H1) H2 ((hf _ _ (by decide)).trans H3) H4 H5
  | pmv H0 H1 H2 H3 H4 H5 ih4 => exact TT.pmv ((hf _ _ (by decide)).trans H0) ((hf _ _ (by decide)).trans H1) H2 ((hf _ _ (by decide)).trans H3) ih4 H5
  | subn H0 H1 H2 H3 H4 H5 H6 H7 H8 H9 ih5 ih6 => exact TT.subn ((hf _ _ (by decide)).trans H0) ((hf _ _ (by decide)).trans H1) ((hf _ _ (by decide)).trans H2) ((hf _ _ (by decide)).trans H3) H4 ih5 ih6 H7 H8 H9
  | txt H0 H1 H2 H3 H4 ih2 => exact TT.txt ((hf _ _ (by decide)).trans H0) ((hf _ _ (by decide)).trans H1) ih2 H3 H4
  | byte H0 H1 H2 => exact TT.byte ((hf _ _ (by decide)).trans H0) H1 H2
  | expr H0 H1 H2 H3 H4 H5 H6 H7 H8 H9 ih5 ih6 => exact TT.expr ((hf _ _ (by decide)).trans H0) ((hf _ _ (by decide)).trans H1) ((hf _ _ (by decide)).trans H2) rfl (by rcases hi4 _ with e | e; (rw [e]; simp only [*]); exact e) ih5 ih6 H7 H8 H9
  | ife H0 H1 H2 H3 H4 H5 ih2 => exact TT.ife ((hf _ _ (by decide)).trans H0) ((hf _ _ (by decide)).trans H1) ih2 H3 H4 H5
  | part H0 H1 H2 H3 H4 H5 H6 H7 => exact TT.part ((hf _ _ (by decide)).trans H0) ((hf _ _ (by decide)).trans H1) rfl (by rcases hi4 _ with e | e; (rw [e]; simp only [*]); exact e) H4 ((hf _ _ (by decide)).trans H5) ((hf _ _ (by decide)).trans H6) H7
  | part2 H0 H1 H2 H3 H4 H5 H6 H7 H8 H9 H10 H11 ih7 => exact TT.part2 ((hf _ _ (by decide)).trans H0) ((hf _ _ (by decide)).trans H1) rfl (by rcases hi4 _ with e | e; (rw [e]; simp only [*]); exact e) H4 ((hf _ _ (by decide)).trans H5) ((hf _ _ (by decide)).trans H6) ih7 H8 H9 H10 H11
  | sup H0 H1 H2 H3 H4 H5 => exact TT.sup ((hf _ _ (by decide)).trans H0) ((hf _ _ (by decide)).trans H1) rfl (by rcases hi4 _ with e | e; (rw [e]; simp only [*]); exact e) H4 H5
  | br H0 H1 H2 H3 H4 H5 H6 H7 H8 ih3 ih4 => exact TT.br ((hf _ _ (by decide)).trans H0) ((hf _ _ (by decide)).trans H1) ((hf _ _ (by decide)).trans H2) ih3 ih4 H5 H6 H7 H8
  | co0 H0 => exact TT.co0 H0
  | co1 H0 ih0 => exact TT.co1 ih0
  | c45 H0 ih0 => exact TT.c45 ih0
  | c56 H0 ih0 => exact TT.c56 ih0
  | eith H0 H1 H2 H3 H4 H5 H6 H7 ih4 ih5 => exact TT.eith ((hf _ _ (by decide)).trans H0) ((hf _ _ (by decide)).trans H1) H2 ((hf _ _ (by decide)).trans H3) ih4 ih5 H6 H7
  | both H0 H1 H2 H3 H4 H5 H6 H7 ih4 ih5 => exact TT.both ((hf _ _ (by decide)).trans H0) ((hf _ _ (by decide)).trans H1) H2 ((hf _ _ (by decide)).trans H3) ih4 ih5 H6 H7
  | not H0 H1 H2 H3 ih2 => exact TT.not ((hf _ _ (by decide)).trans H0) ((hf _ _ (by decide)).trans H1) ih2 H3
  | clk H0 H1 H2 H3 ih2 => exact TT.clk ((hf _ _ (by decide)).trans H0) ((hf _ _ (by decide)).trans H1) ih2 H3
  | ask H0 H1 H2 H3 ih2 => exact TT.ask ((hf _ _ (by decide)).trans H0) ((hf _ _ (by decide)).trans H1) ih2 H3
  | ent H0 H1 H2 H3 H4 H5 H6 ih5 => exact TT.ent ((hf _ _ (by decide)).trans H0) ((hf _ _ (by decide)).trans H1) ((hf _ _ (by decide)).trans H2) H3 ((hf _ _ (by decide)).trans H4) ih5 H6
  | vstr H0 H1 H2 H3 H4 => exact TT.vstr ((hf _ _ (by decide)).trans H0) ((hf _ _ (by decide)).trans H1) ((hf _ _ (by decide)).trans H2) H3 H4
  | vtru H0 H1 H2 => exact TT.vtru ((hf _ _ (by decide)).trans H0) H1 H2
  | vsub H0 ih0 => exact TT.vsub ih0
theorem TT.snoc {t : Nat → Int → Int} {Z : Int → Int → Prop} {S : Nat} {x y d w w2 lo m hi p r q u s v : Int} (h : TT t Z S x y d w lo m p r u s) (hS : 100 ≤ S) (hy : y ≠ 0) {l1 h1 p1 q1 : Int} (he : TT t Z (S - 100) y 0 d w2 l1 h1 p1 q1 s v) (hb : m ≤ l1 ∧ h1 ≤ hi ∧ r ≤ p1 ∧ q1 ≤ q) (hr : l1 ≤ y ∧ y < h1 ∨ p1 ≤ y ∧ y < q1) {z : Int} (h5 : t 5 y = z) : TT t Z S x z d (w + w2) lo hi p q u v := by
  have le := he.le
  generalize hS2 : S = S2 at h
  induction h with
  | nil a b => subst hS2; exact TT.cons hS hy h5 he (TT.nil (lo := hi) (hi := hi) (p := q) (q := q) hS (by omega)) (by omega) hr (by omega) (by omega)
  | cons a b c e1 e2 g1 g2 g3 g4 ih1 ih2 =>
    subst hS2
    have hh := ih2 hy he (by omega) hr h5 le rfl
    have l2 := hh.le
    exact TT.cons a b c e1 hh (by omega) g2 (by omega) (by omega)
  | _ => omega

