/-! things under other names: what stays of the world -/
theorem ar_4 {t n : Nat} (h : ar t = some (4, n)) : t = 60 := by
  unfold ar at h
  split at h <;> first | rfl | (simp at h)
/-- what a thing refers to -/
def RF (s : Sg) (x y t i : Nat) : Prop := (∃ k o c n, ob x = some (c, n) ∧ k < n ∧ rf x k = some (t, o) ∧ i = o.getD y) ∨ (x = 3 ∧ t = 12 + y ∧ i < s.1 y + s.1 (9 + y)) ∨ ((x = 5 ∨ x = 7 ∨ x = 9) ∧ t = x + 1) ∨ (x = 59 ∧ t = 12 + y ∧ i < s.1 15)
theorem ent_eq {g : GPm} {ad ad' : Nat → Nat → Nat} {s s' : Sg} {x y : Nat} (h1 : ∀ d, s'.2.1 x y d = s.2.1 x y d) (h2 : x = 60 → s'.2.2 = s.2.2) (c2 : x = 2 → s'.1 y = s.1 y) (c3 : x = 3 → s'.1 (3 + y) = s.1 (3 + y) ∧ s'.1 y + s'.1 (9 + y) = s.1 y + s.1 (9 + y))
    (c5 : (x = 19 → s'.1 13 = s.1 13) ∧ (x = 58 → s'.1 17 = s.1 17)) (c6 : x = 59 → s'.1 14 = s.1 14 ∧ s'.1 15 = s.1 15) (had : ∀ t i, RF s x y t i → ad' t i = ad t i) : ent g ad' s' x y = ent g ad s x y := by
  have e1 : s'.2.1 x y = s.2.1 x y := funext h1
  have e2 : ∀ c n k, ob x = some (c, n) → k < n → cL ad' (gf s' x y k) = cL ad (gf s x y k) := by
    intro c9 n9 k ho9 hk9
    unfold gf
    rw [e1]
    cases hr : rf x k with
    | none =>
      dsimp only
      cases hb : (Nat.beq x 2 && Nat.beq k 2) with
      | false => rfl
      | true =>
        rw [cond_true, cond_true]
        rw [c2 (Nat.eq_of_beq_eq_true (Bool.and_eq_true_iff.mp hb).1)]
        rfl
    | some z =>
      obtain ⟨t', o⟩ := z
      cases o with
      | none =>
        show Value.ref (ad' t' y) = Value.ref (ad t' y)
        rw [had t' y (Or.inl ⟨k, none, c9, n9, ho9, hk9, hr, rfl⟩)]
      | some c =>
        show Value.ref (ad' t' c) = Value.ref (ad t' c)
        rw [had t' c (Or.inl ⟨k, some c, c9, n9, ho9, hk9, hr, rfl⟩)]
  unfold ent
  rw [e1]
  cases ho : ob x with
  | some z =>
    obtain ⟨c, n⟩ := z
    dsimp only
    rw [show (List.range n).map (fun k => cL ad' (gf s' x y k)) = (List.range n).map (fun k => cL ad (gf s x y k)) from List.map_congr_left fun k hk => e2 c n k ho (List.mem_range.mp hk)]
  | none =>
    dsimp only
    split
    · rfl
    · rfl
    · rename_i hr
      have hx3 : x = 3 := by
        unfold ar at hr
        split at hr <;> simp_all
      subst hx3
      rw [(c3 rfl).1]
      rw [show (fun j => (er s' 3 y j).map (fun r => ad' r.1 r.2)) = (fun j => (er s 3 y j).map (fun r => ad r.1 r.2)) from funext fun j => by
        unfold er
        rw [if_pos rfl, if_pos rfl, (c3 rfl).2]
        by_cases hj : j < s.1 y + s.1 (9 + y)
        · rw [if_pos hj]
          show some (ad' (12 + y) j) = some (ad (12 + y) j)
          rw [had (12 + y) j (Or.inr (Or.inl ⟨rfl, rfl, hj⟩))]
        · rw [if_neg hj]
          rfl]
    · rename_i hr
      have hx3 : x = 5 ∨ x = 7 ∨ x = 9 := by
        unfold ar at hr
        split at hr <;> simp_all
      rw [show (fun j => (er s' x y j).map (fun r => ad' r.1 r.2)) = (fun j => (er s x y j).map (fun r => ad r.1 r.2)) from funext fun j => by
        unfold er
        rw [if_neg (by omega), if_neg (by omega)]
        show some (ad' (x + 1) j) = some (ad (x + 1) j)
        rw [had (x + 1) j (Or.inr (Or.inr (Or.inl ⟨hx3, rfl⟩)))]]
    · rename_i hr
      have hx6 : x = 60 := ar_4 hr
      rw [h2 hx6]
    · rename_i c hr
      have : (x = 19 ∧ c = 13) ∨ (x = 58 ∧ c = 17) := by unfold ar at hr; split at hr <;> simp_all
      rcases this with ⟨rfl, rfl⟩ | ⟨rfl, rfl⟩
      · rw [c5.1 rfl]
      · rw [c5.2 rfl]
    · rename_i hr
      have hx59 : x = 59 := by unfold ar at hr; split at hr <;> simp_all
      subst hx59
      rw [(c6 rfl).1, (c6 rfl).2]
      rw [show (fun j => if j < s.1 15 then some (ad' (12 + y) j) else none) = (fun j => if j < s.1 15 then some (ad (12 + y) j) else none) from funext fun j => by
        by_cases hj : j < s.1 15
        · rw [if_pos hj, if_pos hj, had (12 + y) j (Or.inr (Or.inr (Or.inr ⟨rfl, rfl, hj⟩)))]
        · rw [if_neg hj, if_neg hj]]
    · rfl
/-- what a thing can't refer to -/
theorem RF_no {s : Sg} {x y t i : Nat} (h : RF s x y t i) (h3 : x = 3 → y < 3) (hx : ¬ x = 59) : (t = 3 → x = 2 ∧ i = y) ∧ ¬ t = 58 ∧ ¬ t = 59 ∧ ¬ t = 18 ∧ (t = 19 → x = 18) := by
  rcases h with ⟨k, o, c, n, ho, hk, hr, rfl⟩ | ⟨rfl, rfl, hi⟩ | ⟨hx5, rfl⟩ | ⟨rfl, rfl, hi⟩
  · unfold rf at hr
    split at hr
    all_goals first
      | (cases hr; refine ⟨fun h => ?_, by decide, by decide, by decide, fun h => ?_⟩ <;> first | (exact absurd h (by decide)) | (exact ⟨rfl, rfl⟩) | rfl)
      | (cases hr; done)
      | skip
  · have := h3 rfl
    exact ⟨fun h => by omega, by omega, by omega, by omega, fun h => by omega⟩
  · exact ⟨fun h => by omega, by omega, by omega, by omega, fun h => by omega⟩
  · exact absurd rfl hx
theorem VD_iff {A : Nat → Prop} {ws : va_W} : va_D A ws ↔ (ws.map (·.1)).Nodup ∧ ∀ x ∈ ws, A x.1 := by
  constructor
  · intro h
    refine ⟨?_, fun x hx => ?_⟩
    · unfold List.Nodup
      rw [List.pairwise_iff_getElem]
      intro i j hi hj hij e
      rw [List.length_map] at hi hj
      simp only [List.getElem_map] at e
      have := h.1 i j ws[i] ws[j] (List.getElem?_eq_getElem hi) (List.getElem?_eq_getElem hj) e
      omega
    · obtain ⟨k, hk⟩ := List.getElem?_of_mem hx
      exact h.2 k x hk
  · rintro ⟨h1, h2⟩
    refine ⟨fun i j x y hi hj e => ?_, fun k x hk => h2 x (List.mem_of_getElem? hk)⟩
    unfold List.Nodup at h1
    rw [List.pairwise_iff_getElem] at h1
    obtain ⟨li, ei⟩ := List.getElem?_eq_some_iff.mp hi
    obtain ⟨lj, ej⟩ := List.getElem?_eq_some_iff.mp hj
    rcases Nat.lt_trichotomy i j with hl | hl | hl
    · exact (h1 i j (by simpa using li) (by simpa using lj) hl (by rw [List.getElem_map, List.getElem_map, ei, ej]; exact e)).elim
    · exact hl
    · exact (h1 j i (by simpa using lj) (by simpa using li) hl (by rw [List.getElem_map, List.getElem_map, ei, ej]; exact e.symm)).elim
theorem VP_mem {D : va_G} {ws ws' : va_W} {H : Heap} (h : va_P D vwCl ws H) (hm : ∀ x ∈ ws', x ∈ ws) : va_P D vwCl ws' H := fun k q hk => by
  obtain ⟨k2, h2⟩ := List.getElem?_of_mem (hm q (List.mem_of_getElem? hk))
  exact h k2 q h2
theorem gws_nd {g : GPm} {ad : Nat → Nat → Nat} {K : List (Nat × Nat)} {s : Sg} (h : va_D (gA g) (gws g ad K s)) : (K.map (fun q => ad q.1 q.2)).Nodup := by
  have := (VD_iff.mp h).1
  unfold gws at this
  rw [List.map_map] at this
  exact this
theorem ad_inj {ad : Nat → Nat → Nat} {K : List (Nat × Nat)} (h : (K.map (fun q => ad q.1 q.2)).Nodup) {x y : Nat × Nat} (hx : x ∈ K) (hy : y ∈ K) (e : ad x.1 x.2 = ad y.1 y.2) : x = y := by
  obtain ⟨i, hi⟩ := List.getElem?_of_mem hx
  obtain ⟨j, hj⟩ := List.getElem?_of_mem hy
  obtain ⟨li, ei⟩ := List.getElem?_eq_some_iff.mp hi
  obtain ⟨lj, ej⟩ := List.getElem?_eq_some_iff.mp hj
  unfold List.Nodup at h
  rw [List.pairwise_iff_getElem] at h
  rcases Nat.lt_trichotomy i j with hl | hl | hl
  · exact (h i j (by simpa using li) (by simpa using lj) hl (by rw [List.getElem_map, List.getElem_map, ei, ej]; exact e)).elim
  · subst hl
    rw [hi] at hj
    exact Option.some.inj hj
  · exact (h j i (by simpa using lj) (by simpa using li) hl (by rw [List.getElem_map, List.getElem_map, ei, ej]; exact e.symm)).elim
theorem gp_const {g : GPm} {ad : Nat → Nat → Nat} {K : List (Nat × Nat)} {s : Sg} {H : Heap} (hP : GP g ad K s H) {t : Nat} (i : Nat) (h : 70 ≤ t) : ad t i = g.2.1 (1000 * t + i) := hP.2.2.2.2.2.2 t i h
/-- the world's own list, one thing of it changed, seen as a set -/
theorem gws_set_mem {g : GPm} {ad : Nat → Nat → Nat} {K : List (Nat × Nat)} {s : Sg} {q0 : Nat} {t i : Nat} {e : va_E} (hD : va_D (gA g) (gws g ad K s)) (hK : K[q0]? = some (t, i)) {z : Nat × Nat} (hz : z ∈ K) (hne : ¬ z = (t, i)) : (ad z.1 z.2, ent g ad s z.1 z.2) ∈ (gws g ad K s).set q0 (ad t i, e) := by
  obtain ⟨k, hk⟩ := List.getElem?_of_mem hz
  have hkq : q0 ≠ k := by rintro rfl; rw [hK] at hk; exact hne (Option.some.inj hk).symm
  refine List.mem_of_getElem? (i := k) ?_
  rw [List.getElem?_set_ne hkq]
  unfold gws
  rw [List.getElem?_map, hk]
  rfl
theorem gws_set_nd {g : GPm} {ad : Nat → Nat → Nat} {K : List (Nat × Nat)} {s : Sg} {q0 : Nat} {t i : Nat} {e : va_E} (hK : K[q0]? = some (t, i)) : ((gws g ad K s).set q0 (ad t i, e)).map (·.1) = K.map (fun q => ad q.1 q.2) := by
  apply List.ext_getElem?
  intro k
  rw [List.getElem?_map, List.getElem?_map, List.getElem?_set]
  unfold gws
  by_cases hk : q0 = k
  · subst hk
    have := (List.getElem?_eq_some_iff.mp hK).1
    rw [if_pos rfl, List.length_map, if_pos this, hK]
    rfl
  · rw [if_neg hk, List.getElem?_map, Option.map_map]
    rfl

