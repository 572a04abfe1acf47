section DGE
variable {f : Nat → Int32} {g : Nat → Int64 → Int64} {n k j q r ns nj nm nr nt : Nat} {d : Int64} {A : HS} {Q : Nat → Nat → Nat} {c : Int32}
end DGE
