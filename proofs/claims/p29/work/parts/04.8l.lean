/-- the k-th of a list -/
def lk_at {α : Type} (d : α) : List α → Nat → α
  | [], _ => d
  | x :: _, 0 => x
  | _ :: l, k + 1 => lk_at d l k
