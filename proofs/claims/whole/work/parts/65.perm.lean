/-! The world's cells in another order -/
section XP
variable {E : XE} {l : Launch} {R : Room} {cc : ByteArray} {nL : Nat} {ret : Option FieldType} {own : String} {G : XG} {A : Nat → Prop} {mc ms : Nat} {post : Option Value → va_W → Prop} {kc ks : Nat} {w : va_W} {pc : Nat} {lv : List (Nat × Value)} {st : List Value}
theorem x_perm {w2 : va_W} (is : List Nat) (hn : va_nd is = true) (h1 : is.filterMap (fun i => w[i]?) = w2) (h2 : is.map (fun i => w[i]?) = w2.map some) (k1 : xj E l R cc nL ret own G A mc ms post kc ks w2 pc lv st) : xj E l R cc nL ret own G A mc ms post kc ks w pc lv st :=
  fun cx hA H locs ls hP hD hS hl => k1 cx hA H locs ls (hP.sub is h1) (hD.sub is hn h2) hS hl
end XP
