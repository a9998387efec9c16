theorem bx_j0 (f : Nat → Int64) (v : Int64) : vp_updL f (nI 0).toNatClampNeg v 0 = v := if_pos (by decide +kernel)
