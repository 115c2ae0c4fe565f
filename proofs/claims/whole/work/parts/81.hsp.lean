/-! the law's helpers: what they answer -/
def hNi (N : Nt) : Nt := fun r s' => match r with
  | some (.inl (.inl v)) => N (some (aI 0)) (stO s' v.toInt64)
  | _ => False
def hNz (N : Nt) : Nt := fun r s' => match r with
  | some (.inl (.inl v)) => (¬ v = 0 → N (some (aI 0)) (stO s' 1)) ∧ (v = 0 → N (some (aI 0)) (stO s' 0))
  | _ => False
def hNv (N : Nt) : Nt := fun r s' => match r with
  | none => N (some (aI 0)) s'
  | _ => False
/-- the number of the handler that takes it -/
def hix : List HE → Nat → Nat → Nat
  | [], _, i => 100 + i
  | h :: r, x, i => if h.1 = x then i else hix r x (i + 1)
def hX (hs : List HE) (N : Nt) : Xt := fun x s' => match hix hs x 1 with
  | 1 => N (some (aI 1)) s'
  | 2 => N (some (aI 2)) s'
  | 3 => N (some (aI 3)) s'
  | _ => False

