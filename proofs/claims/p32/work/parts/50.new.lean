/-! a thing made: the world with one name more -/
def adN (ad : Nat → Nat → Nat) (t i q : Nat) : Nat → Nat → Nat := fun a b => if a = t ∧ b = i then q else ad a b
theorem adN_new {ad : Nat → Nat → Nat} {t i q : Nat} : adN ad t i q t i = q := if_pos ⟨rfl, rfl⟩
theorem adN_old {ad : Nat → Nat → Nat} {t i q a b : Nat} (h : ¬ (a = t ∧ b = i)) : adN ad t i q a b = ad a b := if_neg h
theorem GP_new {g : GPm} {ad : Nat → Nat → Nat} {K : List (Nat × Nat)} {s s' : Sg} {H H1 : Heap} {t i q : Nat} {e : va_E} (h70 : t < 70) (hP : GP g ad K s H) (hnew : ¬ Lv s t i) (hLv : ∀ a b, Lv s' a b ↔ (Lv s a b ∨ (a = t ∧ b = i)))
    (he : ent g (adN ad t i q) s' t i = e) (ho : ∀ a b, Lv s a b → ent g (adN ad t i q) s' a b = ent g ad s a b) (h1 : va_P g.1 vwCl (gws g ad K s ++ [(q, e)]) H1) (h2 : va_D (gA g) (gws g ad K s ++ [(q, e)])) (hz : H.size ≤ H1.size)
    (htie : ∀ j, j < 3 → s'.1 (3 + j) = 0 → adN ad t i q 3 j = g.2.1 73000) : GP g (adN ad t i q) (K ++ [(t, i)]) s' H1 := by
  have hold : ∀ z ∈ K, ¬ (z.1 = t ∧ z.2 = i) := fun z hz2 hc => hnew (by have := hP.2.2.2.2.2.1 z hz2; rw [hc.1, hc.2] at this; exact this)
  have e1 : gws g (adN ad t i q) (K ++ [(t, i)]) s' = gws g ad K s ++ [(q, e)] := by
    unfold gws
    rw [List.map_append]
    congr 1
    · refine List.map_congr_left fun z hz2 => ?_
      rw [adN_old (hold z hz2), ho z.1 z.2 (hP.2.2.2.2.2.1 z hz2)]
    · show [(adN ad t i q t i, ent g (adN ad t i q) s' t i)] = [(q, e)]
      rw [adN_new, he]
  refine ⟨by rw [e1]; exact h1, by rw [e1]; exact h2, fun a b hab => ?_, Nat.le_trans hP.2.2.2.1 hz, htie, fun z hz2 => ?_, fun a b hab => by rw [adN_old (fun h => by have := h.1; omega)]; exact hP.2.2.2.2.2.2 a b hab⟩
  · rcases (hLv a b).mp hab with h | ⟨rfl, rfl⟩
    · exact List.mem_append_left _ (hP.2.2.1 a b h)
    · exact List.mem_append_right _ (List.mem_singleton.mpr rfl)
  · rcases List.mem_append.mp hz2 with h | h
    · exact (hLv z.1 z.2).mpr (Or.inl (hP.2.2.2.2.2.1 z h))
    · rw [List.mem_singleton.mp h]
      exact (hLv t i).mpr (Or.inr ⟨rfl, rfl⟩)
theorem Ex_new {g : GPm} {ad : Nat → Nat → Nat} {K : List (Nat × Nat)} {s : Sg} {H : Heap} {t i q : Nat} (hP : GP g ad K s H) (hnew : ¬ Lv s t i) : Ex ad K (adN ad t i q) (K ++ [(t, i)]) := fun z hz2 _ _ =>
  ⟨List.mem_append_left _ hz2, fun _ _ => adN_old fun hc => hnew (by have := hP.2.2.2.2.2.1 z hz2; rw [hc.1, hc.2] at this; exact this)⟩
/-- counts with one changed -/
def stC (s : Sg) (k v : Nat) : Sg := (fun a => if a = k then v else s.1 a, s.2)
theorem stC_1 {s : Sg} {k v a : Nat} : (stC s k v).1 a = if a = k then v else s.1 a := rfl
theorem stC_2 {s : Sg} {k v : Nat} : (stC s k v).2 = s.2 := rfl
/-- a person, a vow is made: it is there, all its fields 0, in no list yet -/
def newS (s : Sg) (a n : Nat) : Sg := stC (s.1, fun b c d => if b = 12 + a ∧ c = s.1 a then 0 else s.2.1 b c d, s.2.2) (6 + a) n

