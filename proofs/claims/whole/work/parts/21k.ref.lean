def rEdges (a : Nat → Nat → Int32) (p2 q : Int32) : Nat → Nat → (Nat → Int32) → Nat → Int32
  | 0, _, r => r
  | n + 1, k, r => rEdges a p2 q n (k + 1) (upd r (((8 : Int32) * q) + (nI k)).toNatClampNeg ((r (((8 : Int32) * q) + (nI k)).toNatClampNeg) + (((p2 >>> ((nI k) &&& 31)) &&& ((((a 4) q.toNatClampNeg) ^^^ (-1 : Int32)) >>> ((nI k) &&& 31))) &&& (1 : Int32))))
