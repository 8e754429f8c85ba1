def gr_N6 (v : Int64) (J : gr_J) : Prop := ¬ ((lg_cmp v (J 0 83)).toInt) = 0 ∧ ¬ ((lg_cmp v (J 0 84)).toInt) = 0 ∧ ¬ ((lg_cmp v (J 0 85)).toInt) = 0 ∧ ¬ ((lg_cmp v (J 0 86)).toInt) = 0 ∧ ¬ ((lg_cmp v (J 0 87)).toInt) = 0 ∧ ¬ ((lg_cmp v (J 0 88)).toInt) = 0
def gr_o (a b : Prop) : Prop := a ∨ b
theorem gr_o_l {a b c : Prop} (h : gr_o a b) (f : a → c) : gr_o c b := Or.imp_left f h
theorem gr_o_r {a b : Prop} (h : gr_o a b) (hb : ¬ b) : a := Or.resolve_right h hb
