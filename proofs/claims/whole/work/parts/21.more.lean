/-! bits counted, the lowest bit, powers, kinds under kinds -/
def j_us (x s : Int32) : Int32 := (x.toUInt32 >>> (s.toUInt32 &&& Int32.toUInt32 31)).toInt32
def j_b1 (x : Int32) : Int32 := x - (j_us x 1 &&& 1431655765)
def j_b2 (x : Int32) : Int32 := (x &&& 858993459) + (j_us x 2 &&& 858993459)
def j_b3 (x : Int32) : Int32 := (x + j_us x 4) &&& 252645135
def j_b4 (x : Int32) : Int32 := x + j_us x 8
def j_b5 (x : Int32) : Int32 := x + j_us x 16
def j_bc (x : Int32) : Int32 := j_b5 (j_b4 (j_b3 (j_b2 (j_b1 x)))) &&& 63
def j_n0 (x : Int32) : Int32 := (x ^^^ (-1)) &&& (x - 1)
def j_ns (c k : Int32) (p : Int32 × Int32) : Int32 × Int32 := if p.2 ≤ c then p else (p.1 + k, j_us p.2 k)
def j_nt (x : Int32) : Int32 × Int32 := j_ns 4 2 (j_ns 16 4 (j_ns 256 8 (j_ns 65536 16 (1, x))))
def j_ntz (x : Int32) : Int32 := if 0 < j_n0 x then (j_nt (j_n0 x)).1 + j_us (j_nt (j_n0 x)).2 1 else j_n0 x &&& 32
def j_pow (b : Int32) : Nat → Int64
  | 0 => 1
  | i + 1 => j_pow b i * b.toInt64
def o_above (k : Nat) : Int32 := match k with | 0 => -1 | 1 => 0 | 2 => 0 | 3 => 2 | 4 => 3 | 5 => 0 | _ => 1
theorem kn_above (k : Nat) : k_above k = .int (o_above k) := by
  match k with
  | 0 => rfl
  | 1 => rfl
  | 2 => rfl
  | 3 => rfl
  | 4 => rfl
  | 5 => rfl
  | n + 6 => rfl
def j_under : Nat → Int32 → Int32 → Bool
  | 0, _, _ => false
  | n + 1, a, t => if inR a 0 6 then (if a = t then true else j_under n (o_above a.toNatClampNeg) t) else false
