/-! class and model alike: what hinders two -/
theorem sub_toInt {a b : Int32} (h1 : -2147483648 ≤ a.toInt - b.toInt) (h2 : a.toInt - b.toInt < 2147483648) : (a - b).toInt = a.toInt - b.toInt := by
  rw [Int32.toInt_sub]
  exact Int.bmod_eq_of_le h1 h2
section Hind
variable {D : Nat} {s : Sg}
theorem age_iff (hD : D ≤ 10000000) (h : Rl D s) {p q : Nat} {A : Int32} (hp : p < s.1 0) (hq : q < s.1 0) : aoy s (nI p) (nI q) < A ↔ ykP s (nI p) (nI q) A := by
  have h24 := (Rl_n h).1
  have cp : cl (nI p) = p := nI_clamp (by omega)
  have cq : cl (nI q) = q := nI_clamp (by omega)
  obtain ⟨d, hd, e1, e2⟩ := h.1.2.2.2.2.2
  have bp := h.2.2.2.1 p hp
  have bq := h.2.2.2.1 q hq
  have rp := (h.2.1 p hp).1
  have rq := (h.2.1 q hq).1
  unfold aoy ykP mx
  rw [cp, cq, rp, rq, e1, e2]
  rw [e1, nI_toInt (by omega)] at bp bq
  have ed : (nI d).toInt = d := nI_toInt (by omega)
  have s1 : (nI d - s.2.1 12 p 0).toInt = d - (s.2.1 12 p 0).toInt := by rw [sub_toInt (by rw [ed]; omega) (by rw [ed]; omega), ed]
  have s2 : (nI d - s.2.1 12 q 0).toInt = d - (s.2.1 12 q 0).toInt := by rw [sub_toInt (by rw [ed]; omega) (by rw [ed]; omega), ed]
  by_cases hlt : s.2.1 12 p 0 < s.2.1 12 q 0
  · rw [if_pos hlt]
    rw [Int32.lt_iff_toInt_lt] at hlt
    rw [Int32.lt_iff_toInt_lt, Int32.lt_iff_toInt_lt, s1, s2]
    omega
  · rw [if_neg hlt]
    rw [Int32.lt_iff_toInt_lt] at hlt
    rw [Int32.lt_iff_toInt_lt, Int32.lt_iff_toInt_lt, s1, s2]
    omega
theorem akin_iff (h : Rl D s) {p q : Nat} (hp : p < s.1 0) (hq : q < s.1 0) : (ilC s (nI p) (nI q) ∨ dgC s (nI p) (nI q) ≤ 4) ↔ akP (kinM s (nI p) (nI q)) := by
  unfold akP
  rcases kin_eq h hp hq with ⟨d1, d2, d3⟩ | ⟨r, fl, hr, hfl, d1, d2, d3⟩
  · rw [d1, d3]
    exact ⟨fun w => w.elim (fun w => absurd w d2) (fun w => absurd w (by decide)), fun w => absurd rfl w.1⟩
  · rw [d1, d2, d3]
    have key : ∀ r, r < 47 → ∀ fl, fl < 2 → ((fl = 1 ∨ nI r ≤ 4) ↔ (¬ nI (100 * r + fl) = -1 ∧ (nI (100 * r + fl) - nI (100 * r + fl) / 100 * 100 = 1 ∨ nI (100 * r + fl) / 100 ≤ 4))) := by decide +kernel
    exact key r hr fl hfl
/-- what would hinder two, dispensed or not -/
theorem lh3_eq (hD : D ≤ 10000000) (h : Rl D s) {p q : Nat} (hp : p < s.1 0) (hq : q < s.1 0) : lh3 s (nI p) (nI q) = hndM s (nI p) (nI q) := by
  have h24 := (Rl_n h).1
  have cp : cl (nI p) = p := nI_clamp (by omega)
  have cq : cl (nI q) = q := nI_clamp (by omega)
  have e1 := age_iff (A := 5760) hD h hp hq
  have e2 := akin_iff h hp hq
  have e3 : (¬ s.2.1 12 (cl (nI p)) 3 = 0 ∨ ¬ s.2.1 12 (cl (nI q)) 3 = 0) ↔ (¬ s.2.1 25 0 (cl (nI p)) = 0 ∨ ¬ s.2.1 25 0 (cl (nI q)) = 0) := by rw [cp, cq, (h.2.1 p hp).2.2.2.1, (h.2.1 q hq).2.2.2.1]
  unfold hndM lh3 lh2 lh1
  by_cases a1 : aoy s (nI p) (nI q) < 5760
  · rw [iteP_t a1, iteP_t (e1.mp a1)]
    by_cases a2 : ilC s (nI p) (nI q) ∨ dgC s (nI p) (nI q) ≤ 4
    · rw [iteP_t a2, iteP_t (e2.mp a2)]
      by_cases a3 : ¬ s.2.1 12 (cl (nI p)) 3 = 0 ∨ ¬ s.2.1 12 (cl (nI q)) 3 = 0
      · rw [iteP_t a3, iteP_t (e3.mp a3)]; (first | done | rfl)
      · rw [iteP_f a3, iteP_f (fun w => a3 (e3.mpr w))]; (first | done | rfl)
    · rw [iteP_f a2, iteP_f (fun w => a2 (e2.mpr w))]
      by_cases a3 : ¬ s.2.1 12 (cl (nI p)) 3 = 0 ∨ ¬ s.2.1 12 (cl (nI q)) 3 = 0
      · rw [iteP_t a3, iteP_t (e3.mp a3)]; (first | done | rfl)
      · rw [iteP_f a3, iteP_f (fun w => a3 (e3.mpr w))]; (first | done | rfl)
  · rw [iteP_f a1, iteP_f (fun w => a1 (e1.mpr w))]
    by_cases a2 : ilC s (nI p) (nI q) ∨ dgC s (nI p) (nI q) ≤ 4
    · rw [iteP_t a2, iteP_t (e2.mp a2)]
      by_cases a3 : ¬ s.2.1 12 (cl (nI p)) 3 = 0 ∨ ¬ s.2.1 12 (cl (nI q)) 3 = 0
      · rw [iteP_t a3, iteP_t (e3.mp a3)]; (first | done | rfl)
      · rw [iteP_f a3, iteP_f (fun w => a3 (e3.mpr w))]; (first | done | rfl)
    · rw [iteP_f a2, iteP_f (fun w => a2 (e2.mpr w))]
      by_cases a3 : ¬ s.2.1 12 (cl (nI p)) 3 = 0 ∨ ¬ s.2.1 12 (cl (nI q)) 3 = 0
      · rw [iteP_t a3, iteP_t (e3.mp a3)]; (first | done | rfl)
      · rw [iteP_f a3, iteP_f (fun w => a3 (e3.mpr w))]; (first | done | rfl)
/-- its bits -/
def B3 (a b c : Bool) : Int32 := (bif a then 1 else 0) ||| (bif b then 2 else 0) ||| (bif c then 8 else 0)
theorem hnd_B {p q : Int32} : ∃ a b c, hndM s p q = B3 a b c := by
  unfold hndM B3
  by_cases a1 : ykP s p q 5760 <;> by_cases a2 : akP (kinM s p q) <;> by_cases a3 : (¬ s.2.1 25 0 (cl p) = 0 ∨ ¬ s.2.1 25 0 (cl q) = 0)
  · rw [iteP_t a1, iteP_t a2, iteP_t a3]; exact ⟨true, true, true, rfl⟩
  · rw [iteP_t a1, iteP_t a2, iteP_f a3]; exact ⟨true, true, false, rfl⟩
  · rw [iteP_t a1, iteP_f a2, iteP_t a3]; exact ⟨true, false, true, rfl⟩
  · rw [iteP_t a1, iteP_f a2, iteP_f a3]; exact ⟨true, false, false, rfl⟩
  · rw [iteP_f a1, iteP_t a2, iteP_t a3]; exact ⟨false, true, true, rfl⟩
  · rw [iteP_f a1, iteP_t a2, iteP_f a3]; exact ⟨false, true, false, rfl⟩
  · rw [iteP_f a1, iteP_f a2, iteP_t a3]; exact ⟨false, false, true, rfl⟩
  · rw [iteP_f a1, iteP_f a2, iteP_f a3]; exact ⟨false, false, false, rfl⟩
/-- where a dispensation stands -/
def pl0 (p q : Nat) : Nat := if p < q then 24 * p + q else 24 * q + p
theorem plc_n {p q : Nat} (hp : p < 24) (hq : q < 24) : cl (plc (nI p) (nI q) 1) = 3 * pl0 p q ∧ cl (plc (nI p) (nI q) 2) = 3 * pl0 p q + 1 ∧ cl (plc (nI p) (nI q) 8) = 3 * pl0 p q + 2 := by
  have e : (if nI p < nI q then 24 * nI p + nI q else 24 * nI q + nI p) = nI (pl0 p q) ∧ pl0 p q < 600 := by
    unfold pl0
    by_cases hlt : p < q
    · rw [if_pos (nI_lt hlt (by omega)), if_pos hlt]
      exact ⟨row24 p q, by omega⟩
    · rw [if_neg (nI_nlt (by omega) (by omega)), if_neg hlt]
      exact ⟨row24 q p, by omega⟩
  unfold plc
  rw [e.1, row3]
  have h6 := e.2
  refine ⟨?_, ?_, ?_⟩
  · rw [if_pos rfl]
    show cl (nI (3 * pl0 p q) + nI 0) = _
    rw [nI_add]
    exact nI_clamp (by omega)
  · rw [if_neg (by decide), if_pos rfl]
    show cl (nI (3 * pl0 p q) + nI 1) = _
    rw [nI_add]
    exact nI_clamp (by omega)
  · rw [if_neg (by decide), if_neg (by decide)]
    show cl (nI (3 * pl0 p q) + nI 2) = _
    rw [nI_add]
    exact nI_clamp (by omega)
theorem D3_B {a b c : Int32} : ∃ x y z, D3 a b c = B3 x y z ∧ (x = false ↔ a = 0) ∧ (y = false ↔ b = 0) ∧ (z = false ↔ c = 0) := by
  unfold D3 B3
  by_cases h1 : a = 0 <;> by_cases h2 : b = 0 <;> by_cases h3 : c = 0
  · exact ⟨false, false, false, by simp [h1, h2, h3], by simp [h1], by simp [h2], by simp [h3]⟩
  · exact ⟨false, false, true, by simp [h1, h2, h3], by simp [h1], by simp [h2], by simp [h3]⟩
  · exact ⟨false, true, false, by simp [h1, h2, h3], by simp [h1], by simp [h2], by simp [h3]⟩
  · exact ⟨false, true, true, by simp [h1, h2, h3], by simp [h1], by simp [h2], by simp [h3]⟩
  · exact ⟨true, false, false, by simp [h1, h2, h3], by simp [h1], by simp [h2], by simp [h3]⟩
  · exact ⟨true, false, true, by simp [h1, h2, h3], by simp [h1], by simp [h2], by simp [h3]⟩
  · exact ⟨true, true, false, by simp [h1, h2, h3], by simp [h1], by simp [h2], by simp [h3]⟩
  · exact ⟨true, true, true, by simp [h1, h2, h3], by simp [h1], by simp [h2], by simp [h3]⟩
/-- what is dispensed, in both -/
theorem ds_eq (h : Rl D s) {p q : Nat} (hp : p < 24) (hq : q < 24) (hne : ¬ p = q) : s.2.1 8 p q = D3 (s.2.1 29 0 (3 * pl0 p q)) (s.2.1 29 0 (3 * pl0 p q + 1)) (s.2.1 29 0 (3 * pl0 p q + 2)) := by
  have hD := h.2.2.2.2.2.2.1
  unfold pl0
  by_cases hlt : p < q
  · rw [if_pos hlt]
    exact (hD p q hlt hq).1
  · rw [if_neg hlt]
    have := hD q p (by omega) hp
    rw [this.2]
    exact this.1
theorem kep_fin : ∀ a b c x y z : Bool, B3 a b c &&& (B3 x y z ^^^ -1) = (((B3 a b c &&& (bif x then 1 ^^^ -1 else -1)) &&& (bif y then 2 ^^^ -1 else -1)) &&& (-1)) &&& (bif z then 8 ^^^ -1 else -1) := by decide +kernel
theorem kep_rn : ∀ a b c x y z : Bool, ∃ n, n < 12 ∧ n &&& 4 = 0 ∧ B3 a b c &&& (B3 x y z ^^^ -1) = nI n := by
  have h : ∀ a b c x y z : Bool, (if (a && !x) = true then 1 else 0) + (if (b && !y) = true then 2 else 0) + (if (c && !z) = true then 8 else 0) < 12 ∧ ((if (a && !x) = true then 1 else 0) + (if (b && !y) = true then 2 else 0) + (if (c && !z) = true then 8 else 0)) &&& 4 = 0 ∧ B3 a b c &&& (B3 x y z ^^^ -1) = nI ((if (a && !x) = true then 1 else 0) + (if (b && !y) = true then 2 else 0) + (if (c && !z) = true then 8 else 0)) := by decide +kernel
  exact fun a b c x y z => ⟨_, h a b c x y z⟩
theorem kep_bit : ∀ a b c x y z : Bool, (¬ B3 a b c &&& (B3 x y z ^^^ -1) &&& 1 = 0 ↔ (¬ B3 a b c &&& 1 = 0 ∧ x = false)) ∧ (¬ B3 a b c &&& (B3 x y z ^^^ -1) &&& 2 = 0 ↔ (¬ B3 a b c &&& 2 = 0 ∧ y = false)) ∧ (¬ B3 a b c &&& (B3 x y z ^^^ -1) &&& 8 = 0 ↔ (¬ B3 a b c &&& 8 = 0 ∧ z = false)) := by decide +kernel
theorem lh_eq (hD : D ≤ 10000000) (h : Rl D s) {p q : Nat} (hp : p < s.1 0) (hq : q < s.1 0) (hne : ¬ p = q) : lhC s (nI p) (nI q) = kepM s (nI p) (nI q) ∧ (∃ n, n < 12 ∧ n &&& 4 = 0 ∧ lhC s (nI p) (nI q) = nI n) ∧
    (∀ k, dskP k → (¬ lhC s (nI p) (nI q) &&& k = 0 ↔ (¬ hndM s (nI p) (nI q) &&& k = 0 ∧ s.2.1 29 0 (cl (plc (nI p) (nI q) k)) = 0))) := by
  have h24 := (Rl_n h).1
  have cp : cl (nI p) = p := nI_clamp (by omega)
  have cq : cl (nI q) = q := nI_clamp (by omega)
  obtain ⟨l1, l2, l3⟩ := plc_n (p := p) (q := q) (by omega) (by omega)
  obtain ⟨a, b, c, eh⟩ := hnd_B (s := s) (p := nI p) (q := nI q)
  obtain ⟨x, y, z, ed, ex, ey, ez⟩ := D3_B (a := s.2.1 29 0 (3 * pl0 p q)) (b := s.2.1 29 0 (3 * pl0 p q + 1)) (c := s.2.1 29 0 (3 * pl0 p q + 2))
  have el : lhC s (nI p) (nI q) = B3 a b c &&& (B3 x y z ^^^ -1) := by
    unfold lhC
    rw [lh3_eq hD h hp hq, cp, cq, ds_eq h (by omega) (by omega) hne, ed, eh]
  have m1 : mk1 s (nI p) (nI q) 1 = bif x then 1 ^^^ -1 else -1 := by
    unfold mk1
    rw [l1]
    cases x with
    | false => rw [if_pos (ex.mp rfl)]; (first | done | rfl)
    | true => rw [if_neg (fun w => absurd (ex.mpr w) (by decide))]; (first | done | rfl)
  have m2 : mk1 s (nI p) (nI q) 2 = bif y then 2 ^^^ -1 else -1 := by
    unfold mk1
    rw [l2]
    cases y with
    | false => rw [if_pos (ey.mp rfl)]; (first | done | rfl)
    | true => rw [if_neg (fun w => absurd (ey.mpr w) (by decide))]; (first | done | rfl)
  have m3 : mk1 s (nI p) (nI q) 8 = bif z then 8 ^^^ -1 else -1 := by
    unfold mk1
    rw [l3]
    cases z with
    | false => rw [if_pos (ez.mp rfl)]; (first | done | rfl)
    | true => rw [if_neg (fun w => absurd (ez.mpr w) (by decide))]; (first | done | rfl)
  refine ⟨?_, ?_, fun k hk => ?_⟩
  · rw [el, kep_fin]
    unfold kepM
    rw [eh, m1, m2, m3]
  · rw [el]; exact kep_rn a b c x y z
  · obtain ⟨k1, k2, k3⟩ := kep_bit a b c x y z
    rw [el, eh]
    rcases hk with rfl | rfl | rfl
    · rw [l1, k1, ex]
    · rw [l2, k2, ey]
    · rw [l3, k3, ez]
theorem cb_iff (hD : D ≤ 10000000) (h : Rl D s) {p q : Nat} {k : Int32} (hp : p < s.1 0) (hq : q < s.1 0) (hne : ¬ p = q) (hk : dskP k) : (¬ lhC s (nI p) (nI q) &&& k = 0 ∧ cbD s (nI p) (nI q) k) ↔ cdP s (nI p) (nI q) k := by
  have h1 := (lh_eq hD h hp hq hne).2.2 k hk
  have e1 := age_iff (A := 5040) hD h hp hq
  unfold cdP cbD
  rw [h1]
  rcases hk with rfl | rfl | rfl
  · constructor
    · rintro ⟨⟨w1, w2⟩, w3⟩
      have w4 : ¬ aoy s (nI p) (nI q) < 5040 := w3.elim (fun z => z.2) (fun z => z.elim (fun z => absurd z.1 (by decide)) (fun z => absurd z (by decide)))
      exact ⟨w1, w2, fun _ z => w4 (e1.mpr z), fun z => absurd z (by decide)⟩
    · rintro ⟨w1, w2, w3, -⟩
      exact ⟨⟨w1, w2⟩, Or.inl ⟨rfl, fun z => w3 rfl (e1.mp z)⟩⟩
  · have hkin : ¬ hndM s (nI p) (nI q) &&& 2 = 0 → akP (kinM s (nI p) (nI q)) := fun w => by
      refine Classical.byContradiction fun z => w ?_
      unfold hndM
      rw [iteP_f z]
      by_cases a1 : ykP s (nI p) (nI q) 5760 <;> by_cases a3 : (¬ s.2.1 25 0 (cl (nI p)) = 0 ∨ ¬ s.2.1 25 0 (cl (nI q)) = 0)
      · rw [iteP_t a1, iteP_t a3]; (first | done | rfl)
      · rw [iteP_t a1, iteP_f a3]; (first | done | rfl)
      · rw [iteP_f a1, iteP_t a3]; (first | done | rfl)
      · rw [iteP_f a1, iteP_f a3]; (first | done | rfl)
    have hkk : akP (kinM s (nI p) (nI q)) → ((¬ ilC s (nI p) (nI q) ∧ ¬ dgC s (nI p) (nI q) ≤ 2) ↔ (kinM s (nI p) (nI q) - kinM s (nI p) (nI q) / 100 * 100 = 0 ∧ 2 < kinM s (nI p) (nI q) / 100)) := fun w => by
      rcases kin_eq h hp hq with ⟨d1, d2, d3⟩ | ⟨r, fl, hr, hfl, d1, d2, d3⟩
      · exact absurd d3 w.1
      · rw [d1, d2, d3]
        have key : ∀ r, r < 47 → ∀ fl, fl < 2 → ((¬ fl = 1 ∧ ¬ nI r ≤ 2) ↔ (nI (100 * r + fl) - nI (100 * r + fl) / 100 * 100 = 0 ∧ 2 < nI (100 * r + fl) / 100)) := by decide +kernel
        exact key r hr fl hfl
    constructor
    · rintro ⟨⟨w1, w2⟩, w3⟩
      have w4 : ¬ ilC s (nI p) (nI q) ∧ ¬ dgC s (nI p) (nI q) ≤ 2 := w3.elim (fun z => absurd z.1 (by decide)) (fun z => z.elim (fun z => z.2) (fun z => absurd z (by decide)))
      exact ⟨w1, w2, fun z => absurd z (by decide), fun _ => (hkk (hkin w1)).mp w4⟩
    · rintro ⟨w1, w2, -, w3⟩
      exact ⟨⟨w1, w2⟩, Or.inr (Or.inl ⟨rfl, (hkk (hkin w1)).mpr (w3 rfl)⟩)⟩
  · constructor
    · rintro ⟨⟨w1, w2⟩, -⟩
      exact ⟨w1, w2, fun z => absurd z (by decide), fun z => absurd z (by decide)⟩
    · rintro ⟨w1, w2, -⟩
      exact ⟨⟨w1, w2⟩, Or.inr (Or.inr rfl)⟩
theorem D3_or : ∀ a b c : Int32, D3 a b c ||| 1 = D3 1 b c ∧ D3 a b c ||| 2 = D3 a 1 c ∧ D3 a b c ||| 8 = D3 a b 1 := by
  intro a b c
  unfold D3
  by_cases h1 : a = 0 <;> by_cases h2 : b = 0 <;> by_cases h3 : c = 0 <;> simp only [h1, h2, h3, if_true, if_false] <;> decide
theorem pl0_ij {p q a b : Nat} (hp : p < 24) (hq : q < 24) (hne : ¬ p = q) (ha : a < b) (hb : b < 24) : 24 * a + b = pl0 p q ↔ ((a = p ∧ b = q) ∨ (a = q ∧ b = p)) := by
  unfold pl0
  by_cases hlt : p < q
  · rw [if_pos hlt]; omega
  · rw [if_neg hlt]; omega
theorem al_dispense {p q k : Int32} (hD : D ≤ 10000000) (h : Rl D s) : alV sp_L_dispense [aR 1 0, aI p, aI q, aI k] sp_X5_dispense [aR 20 0, aI p, aI q, aI k] D s := by
  have hM := Rl_M h
  have hip := Rl_p h (p := p)
  have hiq := Rl_p h (p := q)
  refine ⟨rfl, Rl_CI h, fun hn => ⟨1, rfl, hM, f3_1 (fun w => hn ⟨hip.mpr w.1, hiq.mpr w.2⟩) (okV_th h)⟩, fun hp => ?_⟩
  have hp' : isP s p ∧ isP s q := ⟨hip.mp hp.1, hiq.mp hp.2⟩
  refine ⟨fun hn => ⟨2, rfl, hM, f3_2 hp' (fun w => hn w) (okV_th h)⟩, fun hr => ?_⟩
  have hr' : ¬ p = q ∧ dskP k := hr
  obtain ⟨i, hi, rfl, ci⟩ := Rl_pn h hp.1
  obtain ⟨j, hj, rfl, cj⟩ := Rl_pn h hp.2
  have h24 := (Rl_n h).1
  have hij : ¬ i = j := fun w => hr.1 (by rw [w])
  have hcb := cb_iff hD h hi hj hij hr'.2
  refine ⟨fun hn => ⟨3, rfl, hM, f3_3 hp' hr' (fun w => hn (hcb.mpr w).1) (okV_th h)⟩, fun h1 => ⟨fun hn => ⟨3, rfl, hM, f3_3 hp' hr' (fun w => hn (hcb.mpr w).2) (okV_th h)⟩, fun h2 => ?_⟩⟩
  have h3 := hcb.mp ⟨h1, h2⟩
  obtain ⟨y, hy⟩ : ∃ y, y = dsS s (nI i) (nI j) k := ⟨_, rfl⟩
  show ∃ kk, some (aI 0) = some (aI kk) ∧ sp_X5_dispense [aR 20 0, aI (nI i), aI (nI j), aI k] (dsS s (nI i) (nI j) k) (okV D kk) (fun _ _ => False)
  rw [← hy]
  have y1 : y.1 = s.1 := by rw [hy]; (first | done | rfl)
  have yo : ∀ a b c, ¬ a = 8 → y.2.1 a b c = s.2.1 a b c := fun a b c ha => by
    rw [hy]
    unfold dsS
    rw [stS_get, if_neg (fun w => ha w.1), stS_get, if_neg (fun w => ha w.1)]
  have y8 : ∀ b c, y.2.1 8 b c = if b = j ∧ c = i then s.2.1 8 j i ||| k else if b = i ∧ c = j then s.2.1 8 i j ||| k else s.2.1 8 b c := fun b c => by
    have inner : (stS s 8 i j (s.2.1 8 i j ||| k)).2.1 8 j i = s.2.1 8 j i := by rw [stS_get, if_neg (fun w => hij w.2.1.symm)]
    rw [hy]
    unfold dsS
    rw [ci, cj, inner, stS_get, stS_get]
    by_cases w1 : b = j ∧ c = i
    · rw [if_pos ⟨rfl, w1⟩, if_pos w1]
    · rw [if_neg (fun w => w1 w.2), if_neg w1]
      by_cases w2 : b = i ∧ c = j
      · rw [if_pos ⟨rfl, w2⟩, if_pos w2]
      · rw [if_neg (fun w => w2 w.2), if_neg w2]
  have ag8 : ∀ kk : Nat → Nat → Nat → Bool, (∀ b c, kk 8 b c = false) → ag kk s y := fun kk hk a b c ha => yo a b c (fun w => by rw [w, hk] at ha; cases ha)
  have hz : ∀ a b c, 20 ≤ a → y.2.1 a b c = s.2.1 a b c := fun a b c ha => yo a b c (by omega)
  have hMy : MI y := MI_e (hz 20 0 1 (by decide)) (hz 20 0 12 (by decide)) (hz 20 0 21 (by decide)) hM
  have hpy : isP y (nI i) ∧ isP y (nI j) := by
    unfold isP
    rw [hz 20 0 1 (by decide)]
    exact hp'
  have hcy : cdP y (nI i) (nI j) k := by
    have e1 : npm y = npm s := by unfold npm; rw [hz 20 0 1 (by decide)]
    have e2 : ∀ z, mrow y z = mrow s z := fun z => by funext w; unfold mrow; rw [hz 28 0 _ (by decide)]
    have e3 : kinM y (nI i) (nI j) = kinM s (nI i) (nI j) := by unfold kinM; rw [e1, e2, e2]
    have e4 : ∀ A, ykP y (nI i) (nI j) A = ykP s (nI i) (nI j) A := fun A => by unfold ykP; rw [hz 20 0 0 (by decide), hz 22 0 _ (by decide), hz 22 0 _ (by decide)]
    have e5 : hndM y (nI i) (nI j) = hndM s (nI i) (nI j) := by unfold hndM; rw [e3, e4, hz 25 0 _ (by decide), hz 25 0 _ (by decide)]
    unfold cdP at h3 ⊢
    rw [e5, e3, e4, hz 29 0 _ (by decide)]
    exact h3
  refine ⟨0, rfl, hMy, f3_0 hpy hr' hcy ⟨?_, (by first | rfl | (simp [stS_get, stR_get]; done)), rfl⟩⟩
  obtain ⟨l1, l2, l3⟩ := plc_n (p := i) (q := j) (by omega) (by omega)
  obtain ⟨f, hf⟩ : ∃ f, f = stS (th y 0) 29 0 (cl (plc (nI i) (nI j) k)) 1 := ⟨_, rfl⟩
  rw [← hf]
  have f1 : f.1 = s.1 := by rw [hf]; exact y1
  have agf : ∀ kk : Nat → Nat → Nat → Bool, (∀ b c, kk 8 b c = false) → (∀ c, kk 29 0 c = false) → kk 20 0 32 = false → ag kk s f := fun kk k1 k2 k3 => by
    rw [hf]
    exact ag_st (k2 _) (ag_st k3 (ag8 kk k1))
  have n0 : f.1 0 = s.1 0 := by rw [f1]
  have n1 : f.1 1 = s.1 1 := by rw [f1]
  have n2 : f.1 2 = s.1 2 := by rw [f1]
  obtain ⟨h0, hP, hPf, hB, hE, hU, hD, hS, hV, hVf, hVl, hC, hCr, hCf⟩ := h
  refine ⟨R0_ag f1 (agf _ (fun _ _ => rfl) (fun _ => rfl) rfl) h0, RPs_ag n0 (agf _ (fun _ _ => rfl) (fun _ => rfl) rfl) hP, RPf_ag n0 (agf _ (fun _ _ => rfl) (fun _ => rfl) rfl) hPf, RB_ag n0 (agf _ (fun _ _ => rfl) (fun _ => rfl) rfl) hB, REr_ag (agf _ (fun _ _ => rfl) (fun _ => rfl) rfl) hE, RUn_ag (agf _ (fun _ _ => rfl) (fun _ => rfl) rfl) hU, ?_, RSt_ag n0 (agf _ (fun _ _ => rfl) (fun _ => rfl) rfl) hS, RVs_ag n1 (agf _ (fun _ _ => rfl) (fun _ => rfl) rfl) hV, RVf_ag n1 (agf _ (fun _ _ => rfl) (fun _ => rfl) rfl) hVf, RVl_ag n1 (agf _ (fun _ _ => rfl) (fun _ => rfl) rfl) hVl, RCs_ag n2 (agf _ (fun _ _ => rfl) (fun _ => rfl) rfl) hC, RCr_ag n2 (agf _ (fun _ _ => rfl) (fun _ => rfl) rfl) hCr, RCf_ag n2 (agf _ (fun _ _ => rfl) (fun _ => rfl) rfl) hCf⟩
  intro a b ha hb
  have f8 : ∀ u v, f.2.1 8 u v = y.2.1 8 u v := fun u v => by rw [hf, stS_get, if_neg (fun w => absurd w.1 (by decide)), stS_get, if_neg (fun w => absurd w.1 (by decide))]
  have f29 : ∀ u, f.2.1 29 0 u = if u = cl (plc (nI i) (nI j) k) then 1 else s.2.1 29 0 u := fun u => by
    rw [hf, stS_get]
    by_cases w : u = cl (plc (nI i) (nI j) k)
    · rw [if_pos ⟨rfl, rfl, w⟩, if_pos w]
    · rw [if_neg (fun z => w z.2.2), if_neg w, stS_get, if_neg (fun w => absurd w.1 (by decide)), hz 29 0 u (by decide)]
  obtain ⟨g1, g2⟩ := hD a b ha hb
  have hpl := pl0_ij (p := i) (q := j) (a := a) (b := b) (by omega) (by omega) hij ha hb
  rw [f8, f8, y8, y8, f29, f29, f29]
  by_cases hab : (a = i ∧ b = j) ∨ (a = j ∧ b = i)
  · have e0 : 24 * a + b = pl0 i j := hpl.mpr hab
    rw [e0] at g1 ⊢
    have e8 : (if a = j ∧ b = i then s.2.1 8 j i ||| k else if a = i ∧ b = j then s.2.1 8 i j ||| k else s.2.1 8 a b) = s.2.1 8 a b ||| k := by
      rcases hab with ⟨rfl, rfl⟩ | ⟨rfl, rfl⟩
      · rw [if_neg (fun w => hij w.1), if_pos ⟨rfl, rfl⟩]
      · rw [if_pos ⟨rfl, rfl⟩]
    have e8' : (if b = j ∧ a = i then s.2.1 8 j i ||| k else if b = i ∧ a = j then s.2.1 8 i j ||| k else s.2.1 8 b a) = s.2.1 8 b a ||| k := by
      rcases hab with ⟨rfl, rfl⟩ | ⟨rfl, rfl⟩
      · rw [if_pos ⟨rfl, rfl⟩]
      · rw [if_neg (fun w => hij w.1), if_pos ⟨rfl, rfl⟩]
    rw [e8, e8', g2, g1]
    obtain ⟨o1, o2, o3⟩ := D3_or (s.2.1 29 0 (3 * pl0 i j)) (s.2.1 29 0 (3 * pl0 i j + 1)) (s.2.1 29 0 (3 * pl0 i j + 2))
    refine ⟨?_, rfl⟩
    rcases hr'.2 with rfl | rfl | rfl
    · rw [l1, o1, if_pos rfl, if_neg (by omega), if_neg (by omega)]
    · rw [l2, o2, if_neg (by omega), if_pos rfl, if_neg (by omega)]
    · rw [l3, o3, if_neg (by omega), if_neg (by omega), if_pos rfl]
  · have e0 : ¬ 24 * a + b = pl0 i j := fun w => hab (hpl.mp w)
    rw [if_neg (fun w : a = j ∧ b = i => hab (Or.inr w)), if_neg (fun w : a = i ∧ b = j => hab (Or.inl w)), if_neg (fun w : b = j ∧ a = i => hab (Or.inl ⟨w.2, w.1⟩)), if_neg (fun w : b = i ∧ a = j => hab (Or.inr ⟨w.2, w.1⟩))]
    have ec : cl (plc (nI i) (nI j) k) = 3 * pl0 i j ∨ cl (plc (nI i) (nI j) k) = 3 * pl0 i j + 1 ∨ cl (plc (nI i) (nI j) k) = 3 * pl0 i j + 2 := by
      rcases hr'.2 with rfl | rfl | rfl
      · exact Or.inl l1
      · exact Or.inr (Or.inl l2)
      · exact Or.inr (Or.inr l3)
    rw [if_neg (by omega), if_neg (by omega), if_neg (by omega)]
    exact ⟨g1, g2⟩
end Hind

