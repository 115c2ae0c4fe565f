/-! ===== the instructions ===== -/
/-- an index within its row (said so that it is no function) -/
def Ib (j : Int32) (n : Nat) : Prop := vp_in j n = True
theorem Ib_of {j : Int32} {n : Nat} (h : vp_in j n) : Ib j n := eq_true h
def op_ic (v : Int32) (nx : Nat) : Sem := fun _ k _ _ u L st s => k nx u L (aI v :: st) s
def op_il (i nx : Nat) : Sem := fun _ k _ _ u L st s => match getL L i with
  | some (.inl x) => k nx u L (aI x :: st) s
  | _ => False
def op_al (i nx : Nat) : Sem := fun _ k _ _ u L st s => match getL L i with
  | some (.inr r) => k nx u L (.inl (.inr r) :: st) s
  | _ => False
def op_is (i nx : Nat) : Sem := fun _ k _ _ u L st s => match st with
  | .inl (.inl x) :: st' => setK L i (.inl x) (fun L' => k nx u L' st' s)
  | _ => False
def op_as (i nx : Nat) : Sem := fun _ k _ _ u L st s => match st with
  | .inl (.inr r) :: st' => setK L i (.inr r) (fun L' => k nx u L' st' s)
  | _ => False
def op_inc (i : Nat) (n : Int32) (nx : Nat) : Sem := fun _ k _ _ u L st s => match getL L i with
  | some (.inl x) => setK L i (.inl (x + n)) (fun L' => k nx u L' st s)
  | _ => False
def op_bin (f : Int32 → Int32 → Int32) (nx : Nat) : Sem := fun _ k _ _ u L st s => match st with
  | .inl (.inl y) :: .inl (.inl x) :: st' => k nx u L (aI (f x y) :: st') s
  | _ => False
def op_dv (f : Int32 → Int32 → Int32) (nx : Nat) : Sem := fun _ k _ _ u L st s => match st with
  | .inl (.inl y) :: .inl (.inl x) :: st' => (¬ y = 0) ∧ k nx u L (aI (f x y) :: st') s
  | _ => False
def op_if (f : Int32 → Prop) (tg nx : Nat) : Sem := fun _ k _ _ u L st s => match st with
  | .inl (.inl x) :: st' => (f x → k tg u L st' s) ∧ (¬ f x → k nx u L st' s)
  | _ => False
def op_cmp (f : Int32 → Int32 → Prop) (tg nx : Nat) : Sem := fun _ k _ _ u L st s => match st with
  | .inl (.inl y) :: .inl (.inl x) :: st' => (f x y → k tg u L st' s) ∧ (¬ f x y → k nx u L st' s)
  | _ => False
def op_go (tg : Nat) : Sem := fun _ k _ _ u L st s => k tg u L st s
def op_dup (nx : Nat) : Sem := fun _ k _ _ u L st s => match st with
  | .inl v :: st' => k nx u L (.inl v :: .inl v :: st') s
  | _ => False
def op_dup2 (nx : Nat) : Sem := fun _ k _ _ u L st s => match st with
  | .inl v :: .inl w :: st' => k nx u L (.inl v :: .inl w :: .inl v :: .inl w :: st') s
  | _ => False
def op_pop (nx : Nat) : Sem := fun _ k _ _ u L st s => match st with
  | .inl _ :: st' => k nx u L st' s
  | _ => False
def op_i2l (nx : Nat) : Sem := fun _ k _ _ u L st s => match st with
  | .inl (.inl x) :: st' => k nx u L (aL x.toInt64 :: st') s
  | _ => False
def op_i2c (nx : Nat) : Sem := fun _ k _ _ u L st s => match st with
  | .inl (.inl x) :: st' => k nx u L (aI (x.toUInt32 % 65536).toInt32 :: st') s
  | _ => False
def op_lc (v : Int64) (nx : Nat) : Sem := fun _ k _ _ u L st s => k nx u L (aL v :: st) s
def op_lcmp (nx : Nat) : Sem := fun _ k _ _ u L st s => match st with
  | .inr y :: .inr x :: st' => k nx u L (aI (lg_cmp x y) :: st') s
  | _ => False
/-- an object of the class at place ci: that class it is -/
def isO (ci t : Nat) : Bool := match ob t with
  | some (c, _) => Nat.beq c ci
  | none => false
def op_gf (ci f nx : Nat) : Sem := fun _ k _ _ u L st s => match st with
  | .inl (.inr (t, i)) :: st' => bif isO ci t then (Lv s t i ∧ (match rf t f with
    | some (t', none) => k nx u L (aR t' i :: st') s
    | some (t', some c) => k nx u L (aR t' c :: st') s
    | none => bif Nat.beq t 2 && Nat.beq f 2 then k nx u L (aI (nI (s.1 i)) :: st') s else k nx u L (aI (s.2.1 t i f) :: st') s)) else False
  | _ => False
def op_pf (ci f nx : Nat) : Sem := fun _ k _ _ u L st s => match st with
  | .inl (.inl v) :: .inl (.inr (t, i)) :: st' => bif isO ci t then (match rf t f with
    | none => bif Nat.beq t 2 && Nat.beq f 2 then False else (Lv s t i ∧ (bif zf t f then ((v = 0 ∨ v = 1) ∧ k nx u L st' (stS s t i f v)) else k nx u L st' (stS s t i f v)))
    | _ => False) else False
  | _ => False
def op_iald (nx : Nat) : Sem := fun _ k _ _ u L st s => match st with
  | .inl (.inl j) :: .inl (.inr (t, i)) :: st' => (match ob t, ar t with
    | none, some (0, n) => Lv s t i ∧ Ib j n ∧ k nx u L (aI (s.2.1 t i j.toNatClampNeg) :: st') s
    | _, _ => False)
  | _ => False
def op_bald (nx : Nat) : Sem := fun _ k _ _ u L st s => match st with
  | .inl (.inl j) :: .inl (.inr (t, i)) :: st' => (match ob t, ar t with
    | none, some (1, n) => Lv s t i ∧ Ib j n ∧ k nx u L (aI (s.2.1 t i j.toNatClampNeg) :: st') s
    | _, _ => False)
  | _ => False
def op_iast (nx : Nat) : Sem := fun _ k _ _ u L st s => match st with
  | .inl (.inl v) :: .inl (.inl j) :: .inl (.inr (t, i)) :: st' => (match ob t, ar t with
    | none, some (0, n) => Lv s t i ∧ Ib j n ∧ k nx u L st' (stS s t i j.toNatClampNeg v)
    | _, _ => False)
  | _ => False
def op_bast (nx : Nat) : Sem := fun _ k _ _ u L st s => match st with
  | .inl (.inl v) :: .inl (.inl j) :: .inl (.inr (t, i)) :: st' => (match ob t, ar t with
    | none, some (1, n) => Lv s t i ∧ Ib j n ∧ (v = 0 ∨ v = 1) ∧ k nx u L st' (stS s t i j.toNatClampNeg v)
    | _, _ => False)
  | _ => False
def op_aald (nx : Nat) : Sem := fun _ k _ _ u L st s => match st with
  | .inl (.inl j) :: .inl (.inr (t, i)) :: st' => (match ob t, ar t with
    | none, some (2, _) => Lv s t i ∧ Ib j (s.1 (3 + i)) ∧ j.toNatClampNeg < s.1 i + s.1 (9 + i) ∧ k nx u L (aR (12 + i) j.toNatClampNeg :: st') s
    | none, some (3, n) => Lv s t i ∧ Ib j n ∧ k nx u L (aR (t + 1) j.toNatClampNeg :: st') s
    | _, _ => False)
  | _ => False
def op_cc (ci nx : Nat) : Sem := fun _ k _ _ u L st s => match st with
  | .inl (.inr (t, i)) :: st' => bif isO ci t then (Lv s t i ∧ k nx u L (.inl (.inr (t, i)) :: st') s) else False
  | _ => False
def swK : List (Int32 × Nat) → Nat → Int32 → (Nat → Prop) → Prop
  | [], d, _, k => k d
  | (v, t) :: r, d, x, k => (x = v → k t) ∧ (¬ x = v → swK r d x k)
def op_sw (es : List (Int32 × Nat)) (d : Nat) : Sem := fun _ k _ _ u L st s => match st with
  | .inl (.inl x) :: st' => swK es d x (fun t => k t u L st' s)
  | _ => False
def op_iret : Sem := fun U _ N _ u _ st s => match st with
  | [.inl (.inl v)] => u ≤ U ∧ N (some (aI v)) s
  | _ => False
def op_zret : Sem := fun U _ N _ u _ st s => match st with
  | [.inl (.inl v)] => u ≤ U ∧ (v = 0 ∨ v = 1) ∧ N (some (aI v)) s
  | _ => False
def op_aret : Sem := fun U _ N _ u _ st s => match st with
  | [.inl (.inr r)] => u ≤ U ∧ N (some (.inl (.inr r))) s
  | _ => False
def op_vret : Sem := fun U _ N _ u _ st s => match st with
  | [] => u ≤ U ∧ N none s
  | _ => False
def popK : Nat → List AV → List AV → (List AV → List AV → Prop) → Prop
  | 0, acc, st, k => k acc st
  | n + 1, acc, v :: st, k => popK n (v :: acc) st k
  | _ + 1, _, [], _ => False
def catS : List AV → Nat
  | [] => 0
  | .inl _ :: r => catS r + 1
  | .inr _ :: r => catS r + 2
/-- a call: n arguments (the object's own among them), w units of room -/
def op_call (sp : Spc) (n w nx : Nat) : Sem := fun U k _ X u L st s => popK n [] st (fun as st' => u + w ≤ U ∧ catS st' ≤ 8 ∧ sp as s (fun r s' => match r with
  | some v => k nx (u + w) L (v :: st') s'
  | none => k nx (u + w) L st' s') X)
/-- .. of an object's method -/
def op_callV (ci : Nat) (sp : Spc) (n w nx : Nat) : Sem := fun U k _ X u L st s => popK n [] st (fun as st' => match as with
  | .inl (.inr (t, i)) :: _ => bif isO ci t then (Lv s t i ∧ u + w ≤ U ∧ catS st' ≤ 8 ∧ sp as s (fun r s' => match r with
    | some v => k nx (u + w) L (v :: st') s'
    | none => k nx (u + w) L st' s') X) else False
  | _ => False)
