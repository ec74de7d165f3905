/-! people from a row: f what stands at a place (b ahead of it), len how long the row is, i the first place; c how many came, s how many there are, L their lords, W their weights -/
def qpa (f : Nat → Int) (b j : Int) : Int := (qz (f (b + j).toNat)).toInt
def qpc (f : Nat → Int) (b len i c s : Int) : Prop := 0 ≤ i + 3 * c ∧ i + 3 * c + 2 < len ∧ s < 32 ∧ qfit s (qpa f b (i + 3 * c)) (qpa f b (i + 3 * c + 1)) (qpa f b (i + 3 * c + 2))
