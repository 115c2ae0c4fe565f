/-! the law's start: from plain things to names -/
def rwF (g : GPm) (n : Nat) (r : Nat → Nat) : va_E := .inl (g.2.1 3, (n, .inr (.inr (.inr (.inr (fun i => some (r i)))))))
theorem rwF_at {g : GPm} {q n : Nat} {r : Nat → Nat} {H : Heap} (h : va_at g.1 vwCl (q, rwE g n r) H) : va_at g.1 vwCl (q, rwF g n r) H := by
  have e : vp_cell (g.2.1 3) (n, .inr (.inr (.inr (.inr (fun i => if i < n then some (r i) else none))))) = vp_cell (g.2.1 3) (n, .inr (.inr (.inr (.inr (fun i => some (r i)))))) := by
    rw [vp_cell_q, vp_cell_q]
    unfold arrV
    congr 1
    apply Array.ext
    · simp
    · intro i h1 h2
      simp only [Array.size_ofFn] at h1
      simp [h1]
  unfold va_at at h ⊢
  unfold rwE at h
  unfold rwF
  dsimp only at h ⊢
  rw [← e]
  exact h
theorem VP_of {D : va_G} {w w' : va_W} {H : Heap} (h : va_P D vwCl w H) (hx : ∀ x ∈ w', x ∈ w ∨ va_at D vwCl x H) : va_P D vwCl w' H := fun k q hk => by
  rcases hx q (List.mem_of_getElem? hk) with h1 | h1
  · obtain ⟨k2, h2⟩ := List.getElem?_of_mem h1
    exact h k2 q h2
  · exact h1
theorem VP_get {D : va_G} {w : va_W} {H : Heap} (h : va_P D vwCl w H) {x : Nat × va_E} (hx : x ∈ w) : va_at D vwCl x H := by
  obtain ⟨k2, h2⟩ := List.getElem?_of_mem hx
  exact h k2 x h2
/-- the court, as its constructor leaves it -/
def couW (g : GPm) (E : Nat → (Nat → Nat) → va_E) (a q0 q1 q2 ql qs qd qf qe : Nat) (rs rd rf' : Nat → Nat) : va_W := [(a, .inr (6, [.ref q0, .ref q1, .ref q2, .ref ql, .ref qd, .ref qf, .ref qe, .int 0])), (q0, lsE g), (q1, lsE g), (q2, lsE g), (ql, .inr (3, [.ref qs])), (qs, E 24 rs)] ++ lnR g rs 24 ++ ((qd, E 24 rd) :: zR g 24 24 rd) ++ ((qf, E 6 rf') :: zR g 6 8 rf') ++ [(qe, .inl (g.2.1 1, (8, .inl (fun _ => 0))))]
/-- .. the law's rows -/
def rowW (g : GPm) (m20 m21 m22 m23 m24 m25 m26 m27 m28 m29 m30 : Nat) : va_W := [(m20, .inl (g.2.1 0, (17, .inl (fun _ => 0)))), (m21, .inl (g.2.1 0, (33, .inl (fun _ => 0)))), (m22, .inl (g.2.1 0, (64, .inl (fun _ => 0)))), (m23, .inl (g.2.1 0, (16, .inl (fun _ => 0)))), (m24, .inl (g.2.1 0, (17, .inl (fun _ => 0)))), (m25, .inl (g.2.1 0, (32, .inl (fun _ => 0)))), (m26, .inl (g.2.1 0, (9, .inl (fun _ => 0)))), (m27, .inl (g.2.1 0, (57, .inl (fun _ => 0)))), (m28, .inl (g.2.1 0, (9, .inl (fun _ => 0)))), (m29, .inl (g.2.1 0, (9, .inl (fun _ => 0)))), (m30, .inl (g.2.1 0, (4, .inl (fun _ => 0))))]
def couK : List (Nat × Nat) := [(1, 0), (2, 0), (2, 1), (2, 2), (4, 0), (5, 0)] ++ (List.range 24).map (fun i => (6, i)) ++ ((7, 0) :: (List.range 24).map (fun i => (8, i))) ++ ((9, 0) :: (List.range 6).map (fun i => (10, i))) ++ [(11, 0)]
def rowK : List (Nat × Nat) := [(20, 0), (21, 0), (22, 0), (23, 0), (24, 0), (25, 0), (26, 0), (27, 0), (28, 0), (29, 0), (30, 0)]
def sta0 : Sg := (fun _ => 0, fun t i => if t = 6 then fR (fun _ => 0) (if i < 24 then 24 else 0) 100 else fun _ => 0, 0)
def adF (g : GPm) (a q0 q1 q2 ql qs qd qf qe : Nat) (rs rd rf' : Nat → Nat) (m20 m21 m22 m23 m24 m25 m26 m27 m28 m29 m30 : Nat) (t i : Nat) : Nat := match t with
  | 1 => a
  | 2 => (if i = 0 then q0 else if i = 1 then q1 else q2)
  | 3 => g.2.1 73000
  | 4 => ql
  | 5 => qs
  | 6 => rs i
  | 7 => qd
  | 8 => rd i
  | 9 => qf
  | 10 => rf' i
  | 11 => qe
  | 20 => m20
  | 21 => m21
  | 22 => m22
  | 23 => m23
  | 24 => m24
  | 25 => m25
  | 26 => m26
  | 27 => m27
  | 28 => m28
  | 29 => m29
  | 30 => m30
  | t => g.2.1 (1000 * t + i)
section Sta
variable {g : GPm} {a q0 q1 q2 ql qs qd qf qe : Nat} {rs rd rf' : Nat → Nat} {m20 m21 m22 m23 m24 m25 m26 m27 m28 m29 m30 : Nat}
set_option maxRecDepth 20000 in
theorem adF_c {t i : Nat} (h : 70 ≤ t) : adF g a q0 q1 q2 ql qs qd qf qe rs rd rf' m20 m21 m22 m23 m24 m25 m26 m27 m28 m29 m30 t i = g.2.1 (1000 * t + i) := by
  unfold adF
  split <;> first | rfl | omega
theorem sta_cou : gws g (adF g a q0 q1 q2 ql qs qd qf qe rs rd rf' m20 m21 m22 m23 m24 m25 m26 m27 m28 m29 m30) couK sta0 = couW g (rwF g) a q0 q1 q2 ql qs qd qf qe rs rd rf' := by
  unfold gws couK couW
  rw [List.map_append, List.map_append, List.map_append, List.map_append]
  refine congr (congrArg _ (congr (congrArg _ (congr (congrArg _ (congr (congrArg _ ?_) ?_)) ?_)) ?_)) ?_
  · rfl
  · rw [List.map_map]; rfl
  · rw [List.map_cons, List.map_map]; rfl
  · rw [List.map_cons, List.map_map]; rfl
  · rfl
theorem sta_row : gws g (adF g a q0 q1 q2 ql qs qd qf qe rs rd rf' m20 m21 m22 m23 m24 m25 m26 m27 m28 m29 m30) rowK sta0 = rowW g m20 m21 m22 m23 m24 m25 m26 m27 m28 m29 m30 := rfl
def stK : List (Nat × Nat) := couK ++ rowK
theorem sta_gws : gws g (adF g a q0 q1 q2 ql qs qd qf qe rs rd rf' m20 m21 m22 m23 m24 m25 m26 m27 m28 m29 m30) stK sta0 = couW g (rwF g) a q0 q1 q2 ql qs qd qf qe rs rd rf' ++ rowW g m20 m21 m22 m23 m24 m25 m26 m27 m28 m29 m30 := by
  rw [← sta_cou (g := g) (m20 := m20) (m21 := m21) (m22 := m22) (m23 := m23) (m24 := m24) (m25 := m25) (m26 := m26) (m27 := m27) (m28 := m28) (m29 := m29) (m30 := m30), ← sta_row (g := g) (a := a) (q0 := q0) (q1 := q1) (q2 := q2) (ql := ql) (qs := qs) (qd := qd) (qf := qf) (qe := qe) (rs := rs) (rd := rd) (rf' := rf')]
  unfold gws stK
  rw [List.map_append]
theorem st_LvK : ∀ t i, Lv sta0 t i → (t, i) ∈ stK := by
  intro t i h
  unfold stK couK rowK
  simp only [List.mem_append, List.mem_cons, List.mem_map, List.mem_range, Prod.mk.injEq, List.not_mem_nil, or_false]
  unfold Lv at h
  split at h
  all_goals first
    | (have h0 : i = 0 := h; subst h0; simp; done)
    | (have h0 : i < 3 := h; have h1 : i = 0 ∨ i = 1 ∨ i = 2 := by omega
       rcases h1 with rfl | rfl | rfl <;> simp; done)
    | (exact absurd h.2 (Nat.lt_irrefl 0))
    | (exact absurd h (Nat.not_lt_zero _))
    | (have h0 : i < 24 := h; simp [h0]; done)
    | (have h0 : i < 6 := h; simp [h0]; done)
    | skip
  obtain ⟨rfl, h1, h2⟩ := h
  simp
  omega
theorem st_KLv : ∀ q ∈ stK, Lv sta0 q.1 q.2 := by
  unfold stK couK rowK
  refine List.forall_mem_append.mpr ⟨List.forall_mem_append.mpr ⟨List.forall_mem_append.mpr ⟨List.forall_mem_append.mpr ⟨List.forall_mem_append.mpr ⟨?_, ?_⟩, ?_⟩, ?_⟩, ?_⟩, ?_⟩
  · exact ac rfl (ac (by show 0 < 3; decide) (ac (by show 1 < 3; decide) (ac (by show 2 < 3; decide) (ac rfl (ac rfl an)))))
  · intro q hq
    obtain ⟨i, hi, rfl⟩ := List.mem_map.mp hq
    exact List.mem_range.mp hi
  · refine ac rfl (fun q hq => ?_)
    obtain ⟨i, hi, rfl⟩ := List.mem_map.mp hq
    exact List.mem_range.mp hi
  · refine ac rfl (fun q hq => ?_)
    obtain ⟨i, hi, rfl⟩ := List.mem_map.mp hq
    exact List.mem_range.mp hi
  · exact ac rfl an
  · exact ac ⟨rfl, by decide⟩ (ac ⟨rfl, by decide⟩ (ac ⟨rfl, by decide⟩ (ac ⟨rfl, by decide⟩ (ac ⟨rfl, by decide⟩ (ac ⟨rfl, by decide⟩ (ac ⟨rfl, by decide⟩ (ac ⟨rfl, by decide⟩ (ac ⟨rfl, by decide⟩ (ac ⟨rfl, by decide⟩ (ac ⟨rfl, by decide⟩ (an)))))))))))
theorem st_GP {H : Heap} (h : RP g [] (couW g (rwE g) a q0 q1 q2 ql qs qd qf qe rs rd rf' ++ rowW g m20 m21 m22 m23 m24 m25 m26 m27 m28 m29 m30) H) : GP g (adF g a q0 q1 q2 ql qs qd qf qe rs rd rf' m20 m21 m22 m23 m24 m25 m26 m27 m28 m29 m30) stK sta0 H := by
  obtain ⟨h1, h2, h3⟩ := h
  rw [List.nil_append] at h1 h2
  refine ⟨?_, ?_, st_LvK, h3, fun i hi _ => rfl, st_KLv, fun t i ht => adF_c ht⟩
  · rw [sta_gws]
    refine VP_of h1 fun x hx => ?_
    have z1 := VP_get h1 (x := (qs, rwE g 24 rs)) (by unfold couW; simp)
    have z2 := VP_get h1 (x := (qd, rwE g 24 rd)) (by unfold couW; simp)
    have z3 := VP_get h1 (x := (qf, rwE g 6 rf')) (by unfold couW; simp)
    rw [List.mem_append] at hx ⊢
    rcases hx with hx | hx
    · unfold couW at hx ⊢
      simp only [List.mem_append, List.mem_cons, List.not_mem_nil, or_false] at hx ⊢
      rcases hx with (((((rfl | rfl | rfl | rfl | rfl | rfl) | hx) | rfl | hx) | rfl | hx) | rfl)
      all_goals first | (exact Or.inr (rwF_at z1)) | (exact Or.inr (rwF_at z2)) | (exact Or.inr (rwF_at z3)) | (simp; done) | (simp [hx]; done)
    · exact Or.inl (Or.inr hx)
  · rw [sta_gws]
    rw [VD_iff] at h2 ⊢
    have e : (couW g (rwF g) a q0 q1 q2 ql qs qd qf qe rs rd rf' ++ rowW g m20 m21 m22 m23 m24 m25 m26 m27 m28 m29 m30).map (·.1) = (couW g (rwE g) a q0 q1 q2 ql qs qd qf qe rs rd rf' ++ rowW g m20 m21 m22 m23 m24 m25 m26 m27 m28 m29 m30).map (·.1) := by
      unfold couW
      simp
    rw [e]
    refine ⟨h2.1, fun x hx => ?_⟩
    have hx1 := List.mem_map_of_mem (f := fun z : Nat × va_E => z.1) hx
    rw [e] at hx1
    obtain ⟨y, hy, hxy⟩ := List.mem_map.mp hx1
    have := h2.2 y hy
    rw [hxy] at this
    exact this
end Sta

