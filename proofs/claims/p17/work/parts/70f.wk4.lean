/-- a sum over those below n that have a time -/
def cN (lo : Nat → Int) (g : Nat → Int) : Nat → Int
  | 0 => 0
  | n + 1 => cN lo g n + (if 0 ≤ lo n then g n else 0)
section OSS
variable {lo lo1 : Nat → Int} {n m a x : Nat} {l : Nat → Nat} {g h : Nat → Int}
end OSS
