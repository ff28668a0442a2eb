def Rel (n : Nat) (MK MM : QM) : Prop := n = n ∧ MK = MK ∧ MM = MM
theorem rel_0 : Rel 0 MK0 MM0 := sorry
theorem rel_step : Stq Rel := sorry
