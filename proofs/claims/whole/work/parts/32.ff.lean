def filI (f : Nat → Int) (v : Int) : Nat → Int := fun j => if (j : Int) < 8 then v else f j
def ofL (l : List Nat) : Nat → Nat := fun k => l.getD k 0
