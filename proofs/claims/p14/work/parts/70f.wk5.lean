section CUP
variable {G Ga Gb : Nat → Nat → Int32} {r i n : Nat} {v x y : Int} {na na1 c c1 : Nat → Int}
end CUP
