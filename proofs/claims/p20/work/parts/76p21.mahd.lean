/-- how many reservations of the first n are ahead of the u-th -/
def fb_ahm (f : Nat → Int32) (u n : Nat) : Int32 := fa_sum (fun k => if f (377 + (2 * k) + 1) - f (377 + (2 * u) + 1) < 0 ∨ (f (377 + (2 * k) + 1) - f (377 + (2 * u) + 1) = 0 ∧ ¬ f (377 + (2 * u)) ≤ f (377 + (2 * k))) then 1 else 0) n
