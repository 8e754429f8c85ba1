def gc_pp (I : gr_I) (T : Nat) (n : Int) : Prop := ∀ i : Nat, (i : Int) < n → 1 ≤ gc_op I T i
