/-! cuts as a list -/
abbrev Asn : Type := Nat → Nat → LC → List AV → Sg → Prop
def lki : List (Nat × Asn) → Nat → Option Asn
  | [], _ => none
  | (q, P) :: r, pc => bif Nat.beq q pc then some P else lki r pc
theorem lki_mem {t : List (Nat × Asn)} {pc : Nat} {f : Asn} (h : lki t pc = some f) : (pc, f) ∈ t := by
  induction t with
  | nil => cases h
  | cons q r ih =>
    obtain ⟨q1, q2⟩ := q
    unfold lki at h
    cases hq : Nat.beq q1 pc with
    | true =>
      rw [hq, cond_true] at h
      cases h
      rw [Nat.eq_of_beq_eq_true hq]
      exact List.mem_cons_self
    | false =>
      rw [hq, cond_false] at h
      exact List.mem_cons_of_mem _ (ih h)
theorem AMet.mc {y : MethodName} {own : String} {cc : ByteArray} {nL d U : Nat} {ret : Option FieldType} {sp : Spc} {T : List (Nat × Sem)} (hy : plainName y.cls = true) (hcls : y.cls = own) (is : List Nat) (his : is = List.range' 0 nL)
    (hT : ∀ q ∈ T, Snd own cc nL d U ret q.1 q.2) (F : Nat)
    (body : ∀ av s0 N X, sp av s0 N X → ∃ cuts : List (Nat × Asn), argK av is (fun L => wp (lk T) (cut (lki cuts) (fun _ => True)) U N X F 0 0 L [] s0) ∧
      ∀ q ∈ cuts, ∀ n u L st s1, q.2 n u L st s1 → wps (lk T) (cut (lki cuts) (fun k => k < n)) U N X F q.1 u L st s1) : AMet y cc nL ret d U sp :=
  AMet.mk hy hcls is his hT F (fun av s0 N X h => by
    obtain ⟨cuts, h1, h2⟩ := body av s0 N X h
    exact ⟨lki cuts, h1, fun pc P hP => h2 (pc, P) (lki_mem hP)⟩)
theorem ac {α : Type} {P : α → Prop} {a : α} {l : List α} (h : P a) (t : ∀ q ∈ l, P q) : ∀ q ∈ a :: l, P q := fun q hq => (List.mem_cons.mp hq).elim (fun e => by rw [e]; exact h) (t q)
theorem an {α : Type} {P : α → Prop} : ∀ q ∈ ([] : List α), P q := fun _ h => nomatch h
theorem nIs (k : Nat) : nI k + 1 = nI (k + 1) := nI_1 k
theorem nIc {k N : Nat} (h : k ≤ N) (hN : N < 2 ^ 30) : (nI k).toNatClampNeg = k := nI_clamp (by omega)
theorem nIge {a b N : Nat} (ha : a ≤ N) (hb : b ≤ N) (hN : N < 2 ^ 30) : nI b ≤ nI a ↔ b ≤ a := nI_leI (by omega) (by omega)

