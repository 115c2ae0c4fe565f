/-! a person, a vow made: nothing else is touched -/
theorem rf_ne {x k t' : Nat} {o : Option Nat} (h : rf x k = some (t', o)) : ¬ t' = 12 ∧ ¬ t' = 13 := by
  unfold rf at h
  split at h <;> first
    | (cases h; exact ⟨by decide, by decide⟩)
    | (split at h
       · cases h
       · cases h; exact ⟨by omega, by omega⟩)
    | cases h
theorem newS_1 {s : Sg} {a n b : Nat} (h : ¬ b = 6 + a) : (newS s a n).1 b = s.1 b := by
  unfold newS
  rw [stC_1, if_neg h]
theorem newS_2 {s : Sg} {a n b c d : Nat} (h : ¬ (b = 12 + a ∧ c = s.1 a)) : (newS s a n).2.1 b c d = s.2.1 b c d := if_neg h
theorem newS_0 {s : Sg} {a n d : Nat} : (newS s a n).2.1 (12 + a) (s.1 a) d = 0 := if_pos ⟨rfl, rfl⟩
theorem newS_ent {g : GPm} {ad : Nat → Nat → Nat} {s : Sg} {a q x y : Nat} (ha : a < 2) (h6 : s.1 (6 + a) = 0) (h9 : s.1 (9 + a) = 0) (h14 : s.1 14 = 0) (hL : Lv s x y) (hx : ¬ (x = 12 + a ∧ y = s.1 a)) :
    ent g (adN ad (12 + a) (s.1 a) q) (newS s a 1) x y = ent g ad s x y := by
  have e1 : (newS s a 1).2.1 x y = s.2.1 x y := by funext d; exact newS_2 hx
  have e2 : ∀ k, cL (adN ad (12 + a) (s.1 a) q) (gf (newS s a 1) x y k) = cL ad (gf s x y k) := by
    intro k
    unfold gf
    rw [e1]
    cases hr : rf x k with
    | none =>
      dsimp only
      cases hb : (Nat.beq x 2 && Nat.beq k 2) with
      | false => rfl
      | true =>
        rw [cond_true, cond_true]
        have hx2 : x = 2 := Nat.eq_of_beq_eq_true (Bool.and_eq_true_iff.mp hb).1
        subst hx2
        have hy : y < 3 := hL
        rw [newS_1 (by omega)]
        rfl
    | some z =>
      obtain ⟨t', o⟩ := z
      have hne := rf_ne hr
      cases o with
      | none =>
        show Value.ref (adN ad (12 + a) (s.1 a) q t' y) = Value.ref (ad t' y)
        rw [adN_old (fun h => by have := h.1; omega)]
      | some c =>
        show Value.ref (adN ad (12 + a) (s.1 a) q t' c) = Value.ref (ad t' c)
        rw [adN_old (fun h => by have := h.1; omega)]
  unfold ent
  rw [e1]
  cases ho : ob x with
  | some z =>
    obtain ⟨c, n⟩ := z
    dsimp only
    rw [show (fun k => cL (adN ad (12 + a) (s.1 a) q) (gf (newS s a 1) x y k)) = (fun k => cL ad (gf s x y k)) from funext e2]
  | none =>
    dsimp only
    split
    · rfl
    · rfl
    · rename_i hr
      have hx3 : x = 3 := by
        unfold ar at hr
        split at hr <;> simp_all
      subst hx3
      have hy : y < 3 := hL.1
      rw [newS_1 (by omega)]
      rw [show (fun j => (er (newS s a 1) 3 y j).map (fun r => adN ad (12 + a) (s.1 a) q r.1 r.2)) = (fun j => (er s 3 y j).map (fun r => ad r.1 r.2)) from funext fun j => by
        unfold er
        rw [if_pos rfl, if_pos rfl, newS_1 (by omega), newS_1 (by omega)]
        by_cases hj : j < s.1 y + s.1 (9 + y)
        · rw [if_pos hj]
          show some (adN ad (12 + a) (s.1 a) q (12 + y) j) = some (ad (12 + y) j)
          rw [adN_old (fun h => by
            have h1 : y = a := by have := h.1; omega
            subst h1
            have := h.2
            omega)]
        · rw [if_neg hj]
          rfl]
    · rename_i hr
      have hx3 : x = 5 ∨ x = 7 ∨ x = 9 := by
        unfold ar at hr
        split at hr <;> simp_all
      rw [show (fun j => (er (newS s a 1) x y j).map (fun r => adN ad (12 + a) (s.1 a) q r.1 r.2)) = (fun j => (er s x y j).map (fun r => ad r.1 r.2)) from funext fun j => by
        unfold er
        rw [if_neg (by omega), if_neg (by omega)]
        show some (adN ad (12 + a) (s.1 a) q (x + 1) j) = some (ad (x + 1) j)
        rw [adN_old (fun h => by have := h.1; omega)]]
    · rfl
    · rename_i c hr
      have : c = 13 ∨ c = 17 := by unfold ar at hr; split at hr <;> simp_all
      rw [newS_1 (by omega)]
    · rename_i hr
      have hx59 : x = 59 := by unfold ar at hr; split at hr <;> simp_all
      subst hx59
      exact absurd hL.2 (by omega)
    · rfl

