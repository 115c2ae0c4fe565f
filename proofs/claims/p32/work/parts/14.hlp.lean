/-! small words -/
/-- a truth value's two ways -/
def br (P : Prop) (N : Nt) (s : Sg) : Prop := (P → N (some (aI 1)) s) ∧ (¬ P → N (some (aI 0)) s)
theorem stS_get {s : Sg} {t i j a b c : Nat} {v : Int32} : (stS s t i j v).2.1 a b c = if a = t ∧ b = i ∧ c = j then v else s.2.1 a b c := rfl
theorem stS_1 {s : Sg} {t i j : Nat} {v : Int32} : (stS s t i j v).1 = s.1 := rfl
theorem stS_3 {s : Sg} {t i j : Nat} {v : Int32} : (stS s t i j v).2.2 = s.2.2 := rfl
abbrev cl (p : Int32) : Nat := p.toNatClampNeg
theorem Sg_ext {s t : Sg} (h1 : s.1 = t.1) (h2 : ∀ a b c, s.2.1 a b c = t.2.1 a b c) (h3 : s.2.2 = t.2.2) : s = t := by
  obtain ⟨n, S, o⟩ := s
  obtain ⟨n', S', o'⟩ := t
  have e : S = S' := by funext a b c; exact h2 a b c
  have e1 : n = n' := h1
  have e3 : o = o' := h3
  rw [e, e1, e3]
theorem nI_vp {k N : Nat} (h : k < N) (hN : N < 2 ^ 30) : vp_in (nI k) N := vp_in_nI h (by omega)
theorem nIb {k N : Nat} (h : k < N) (hN : N < 2 ^ 30) : Ib (nI k) N := Ib_of (nI_vp h hN)
theorem nIm2 (k : Nat) : nI k + (-1) = nI k - 1 := by
  rw [Int32.sub_eq_add_neg]
noncomputable def iteP {α : Type} (P : Prop) (a b : α) : α := @ite α P (Classical.propDecidable P) a b
theorem iteP_t {α : Type} {P : Prop} {a b : α} (h : P) : iteP P a b = a := if_pos h
theorem iteP_f {α : Type} {P : Prop} {a b : α} (h : ¬ P) : iteP P a b = b := if_neg h
def maj3 (a b c : Int32) : Int32 := ((a &&& b) ||| (a &&& c)) ||| (b &&& c)

