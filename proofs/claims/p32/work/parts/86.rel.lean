/-! class and law: the relation -/
/-- the law's rows -/
abbrev Rw : Type := Nat → Nat → Int32
abbrev rows (s : Sg) : Rw := fun t j => s.2.1 t 0 j
/-- counts and the day; t: how many steps at most -/
def R0 (t : Nat) (r : Rw) (s : Sg) : Prop := CI s ∧ GI s ∧ (s.1 12 = 0 ∧ s.1 17 = 0 ∧ s.1 18 = 0) ∧ (s.1 0 ≤ 16 ∧ s.1 1 ≤ 16 ∧ s.1 2 ≤ 8) ∧ (r 30 1 = nI (s.1 0) ∧ r 30 2 = nI (s.1 1) ∧ r 30 3 = nI (s.1 2)) ∧ ∃ d, d ≤ 10000 * t ∧ s.2.1 1 0 7 = nI d ∧ r 30 0 = nI d
/-- a person -/
def P1 (fa mo : Nat → Nat) (r : Rw) (s : Sg) (k : Nat) : Prop := ∃ ho ri od ba li : Nat, (ho < 8 ∧ ri < 3 ∧ od < 2 ∧ ba < 2 ∧ li < 2) ∧ (s.2.1 12 k 1 = nI ho ∧ s.2.1 12 k 2 = nI ri ∧ s.2.1 12 k 3 = nI od ∧ s.2.1 12 k 4 = nI ba ∧ s.2.1 12 k 5 = nI li) ∧
  r 20 k = nI (pkP ho ri ba (1 - li) (fa k) (mo k)) ∧ r 21 k = s.2.1 12 k 0 ∧ (-36001 ≤ (s.2.1 12 k 0).toInt ∧ (s.2.1 12 k 0).toInt ≤ 1000000) ∧ ((od = 0 ∧ r 21 (16 + k) = -1) ∨ (od = 1 ∧ ∃ d, d < 2 ^ 30 ∧ r 21 (16 + k) = nI d))
def RPe (fa mo : Nat → Nat) (r : Rw) (s : Sg) : Prop := (∀ k, k < s.1 0 → fa k ≤ k ∧ mo k ≤ k ∧ P1 fa mo r s k) ∧ ∀ k, s.1 0 ≤ k → k < 16 → r 21 (16 + k) = -1
/-- a vow -/
def V1 (r : Rw) (s : Sg) (k : Nat) : Prop := ∃ one oth pl lk st la : Nat, (one < s.1 0 ∧ oth < s.1 0 ∧ pl < 8 ∧ lk < 2 ∧ st < 4 ∧ la < 16) ∧ (s.2.1 13 k 0 = nI one ∧ s.2.1 13 k 1 = nI oth ∧ s.2.1 13 k 2 = nI pl ∧ s.2.1 13 k 5 = nI lk ∧ s.2.1 13 k 6 = nI st ∧ s.2.1 13 k 4 = nI la) ∧
  r 24 k = nI (pkV one oth pl lk st la) ∧ r 25 k = s.2.1 13 k 3 ∧ r 25 (16 + k) = s.2.1 13 k 7 ∧ (st = 0 → s.2.1 12 one 5 = 1 ∧ s.2.1 12 oth 5 = 1)
def RV (r : Rw) (s : Sg) : Prop := ∀ k, k < s.1 1 → V1 r s k
/-- a cause -/
def C1 (t : Nat) (r : Rw) (s : Sg) (k : Nat) : Prop := ∃ vw db st ins a b d x y z : Nat, (vw < s.1 1 ∧ 0 < db ∧ db < 128 ∧ st < 4 ∧ 1 ≤ ins ∧ ins ≤ 3) ∧ (a < 129 ∧ b < 129 ∧ d < 129 ∧ x < 129 ∧ y < 129 ∧ z < 129) ∧
  (s.2.1 14 k 0 = nI vw ∧ s.2.1 14 k 1 = nI db ∧ s.2.1 14 k 2 = nI st ∧ s.2.1 14 k 3 = nI ins) ∧ r 26 k = nI (pkC vw db st ins) ∧ (s.2.1 16 k 0 = nI a - 1 ∧ s.2.1 16 k 1 = nI b - 1 ∧ s.2.1 16 k 2 = nI d - 1) ∧ r 28 k = nI (pk3 a b d) ∧
  (s.2.1 17 k 0 = nI x - 1 ∧ s.2.1 17 k 1 = nI y - 1 ∧ s.2.1 17 k 2 = nI z - 1) ∧ r 29 k = nI (pk3 x y z) ∧ (∀ j, j < 7 → r 27 (7 * k + j) = s.2.1 15 k j ∧ -(10 * (t : Int)) ≤ (s.2.1 15 k j).toInt ∧ (s.2.1 15 k j).toInt ≤ 10 * (t : Int)) ∧
  (st < 2 → (ins = 1 ∧ x = 0 ∧ y = 0 ∧ z = 0) ∨ (ins = 2 ∧ 0 < x ∧ y = 0 ∧ z = 0) ∨ (ins = 3 ∧ 0 < x ∧ 0 < y ∧ z = 0)) ∧ (2 ≤ st → 0 < x ∧ (ins = 1 → y = 0 ∧ z = 0))
def RC (t : Nat) (r : Rw) (s : Sg) : Prop := (∀ k, k < s.1 2 → C1 t r s k) ∧ ∀ k, s.1 2 ≤ k → k < 8 → r 28 k = 0 ∧ r 29 k = 0 ∧ ∀ j, j < 7 → r 27 (7 * k + j) = 0
/-- faculties, errors -/
def RF9 (r : Rw) (s : Sg) : Prop := (∀ w pl, w < 2 → pl < 8 → r 22 (8 * w + pl) = s.2.1 10 w pl) ∧ ∃ E : Nat, E < 256 ∧ r 22 16 = nI E ∧ ∀ pl, pl < 8 → s.2.1 11 0 pl = nI (E / 2 ^ pl % 2)
/-- dispensations -/
def D1 (r : Rw) (nd p q k : Nat) : Prop := ∃ j, j < nd ∧ (r 23 j = nI (p + 16 * q + 256 * k) ∨ r 23 j = nI (q + 16 * p + 256 * k))
def RD (r : Rw) (s : Sg) : Prop := ∃ nd : Nat, nd ≤ 15 ∧ r 23 15 = nI nd ∧ (∀ j, j < nd → ∃ p q k : Nat, p < 16 ∧ q < 16 ∧ (k = 1 ∨ k = 2 ∨ k = 8) ∧ r 23 j = nI (p + 16 * q + 256 * k)) ∧
  ∀ p q, p < 16 → q < 16 → ∃ x1 x2 x8 : Nat, (x1 < 2 ∧ x2 < 2 ∧ x8 < 2) ∧ s.2.1 8 p q = nI (x1 + 2 * x2 + 8 * x8) ∧ (x1 = 1 ↔ D1 r nd p q 1) ∧ (x2 = 1 ↔ D1 r nd p q 2) ∧ (x8 = 1 ↔ D1 r nd p q 8)
/-- steps from each to each -/
def tb (T : Nat → Nat → Nat) (f j : Nat) : Nat := if f = 0 then 100 else T (f - 1) j
def mn (a b : Nat) : Nat := if b < a then b else a
def T1 (fa mo : Nat → Nat) (T : Nat → Nat → Nat) (i j : Nat) : Nat := if j = i then 0 else if i < j then 100 else mn 100 (mn (tb T (fa i) j) (tb T (mo i) j) + 1)
def RS (fa mo : Nat → Nat) (T : Nat → Nat → Nat) (s : Sg) : Prop := (∀ i j, i < s.1 0 → j < 24 → s.2.1 6 i j = nI (T i j) ∧ T i j = T1 fa mo T i j) ∧ ∀ i j, s.1 0 ≤ i → i < 24 → j < 24 → s.2.1 6 i j = 100
def Rg (t : Nat) (fa mo : Nat → Nat) (T : Nat → Nat → Nat) (r : Rw) (s : Sg) : Prop := R0 t r s ∧ RPe fa mo r s ∧ RV r s ∧ RC t r s ∧ RF9 r s ∧ RD r s ∧ RS fa mo T s
def Rl (t : Nat) (s : Sg) : Prop := ∃ (fa mo : Nat → Nat) (T : Nat → Nat → Nat), Rg t fa mo T (rows s) s
section Frs
variable {t : Nat} {fa mo : Nat → Nat} {T : Nat → Nat → Nat} {r r' : Rw} {s s' : Sg}
theorem CI_fr (hn : s'.1 = s.1) (e0 : ∀ a, s'.2.1 13 a 0 = s.2.1 13 a 0) (e1 : ∀ a, s'.2.1 13 a 1 = s.2.1 13 a 1) (e2 : ∀ a, s'.2.1 14 a 0 = s.2.1 14 a 0) (h : CI s) : CI s' := by
  have h := of_eq_true h
  have eC : ∀ k j, iC s' k j = iC s k j := fun k j => by unfold iC; rw [hn]
  have eG : ∀ a, Gd s' a = Gd s a := fun a => by unfold Gd; rw [hn]
  refine eq_true ⟨by rw [eG]; exact h.1, by rw [eG]; exact h.2.1, by rw [eG]; exact h.2.2.1, by rw [hn]; exact h.2.2.2.1, fun a ha => ?_, fun a ha => ?_⟩
  · rw [e0, e1, eC, eC]
    exact h.2.2.2.2.1 a (by show a < s.1 1 + s.1 7; rw [← hn]; exact ha)
  · rw [e2, eC]
    exact h.2.2.2.2.2 a (by show a < s.1 2 + s.1 8; rw [← hn]; exact ha)
theorem R0_fr (hn : s'.1 = s.1) (e0 : ∀ a, s'.2.1 13 a 0 = s.2.1 13 a 0) (e1 : ∀ a, s'.2.1 13 a 1 = s.2.1 13 a 1) (e2 : ∀ a, s'.2.1 14 a 0 = s.2.1 14 a 0) (e7 : s'.2.1 1 0 7 = s.2.1 1 0 7) (e30 : ∀ j, r' 30 j = r 30 j) (h : R0 t r s) : R0 t r' s' := by
  obtain ⟨a, b, h⟩ := h
  refine ⟨CI_fr hn e0 e1 e2 a, by unfold GI at b ⊢; rw [hn]; exact b, ?_⟩
  rw [hn, e7, e30, e30, e30, e30]
  exact h
theorem RPe_fr (hn : s'.1 0 = s.1 0) (e12 : ∀ k c, s'.2.1 12 k c = s.2.1 12 k c) (e20 : ∀ j, j < 16 → r' 20 j = r 20 j) (e21 : ∀ j, j < 32 → r' 21 j = r 21 j) (hn16 : s.1 0 ≤ 16) (h : RPe fa mo r s) : RPe fa mo r' s' := by
  refine ⟨fun k hk => ?_, fun k hk hk2 => ?_⟩
  · rw [hn] at hk
    obtain ⟨h1, h2, h3⟩ := h.1 k hk
    refine ⟨h1, h2, ?_⟩
    unfold P1 at h3 ⊢
    rw [e12, e12, e12, e12, e12, e12, e20 k (by omega), e21 k (by omega), e21 (16 + k) (by omega)]
    exact h3
  · rw [hn] at hk
    rw [e21 _ (by omega)]
    exact h.2 k hk hk2
theorem RV_fr (hn0 : s'.1 0 = s.1 0) (hn1 : s'.1 1 = s.1 1) (e13 : ∀ k c, s'.2.1 13 k c = s.2.1 13 k c) (e12 : ∀ k, s'.2.1 12 k 5 = s.2.1 12 k 5) (e24 : ∀ j, j < 16 → r' 24 j = r 24 j) (e25 : ∀ j, r' 25 j = r 25 j) (hn16 : s.1 1 ≤ 16) (h : RV r s) : RV r' s' := by
  intro k hk
  rw [hn1] at hk
  have h := h k hk
  unfold V1 at h ⊢
  simp only [hn0, e13, e12, e25, e24 k (by omega)]
  exact h
theorem RC_fr (hn1 : s'.1 1 = s.1 1) (hn2 : s'.1 2 = s.1 2) (e14 : ∀ k c, s'.2.1 14 k c = s.2.1 14 k c) (e15 : ∀ k c, s'.2.1 15 k c = s.2.1 15 k c) (e16 : ∀ k c, s'.2.1 16 k c = s.2.1 16 k c) (e17 : ∀ k c, s'.2.1 17 k c = s.2.1 17 k c)
    (e26 : ∀ j, j < 8 → r' 26 j = r 26 j) (e27 : ∀ j, j < 56 → r' 27 j = r 27 j) (e28 : ∀ j, j < 8 → r' 28 j = r 28 j) (e29 : ∀ j, j < 8 → r' 29 j = r 29 j) (hn8 : s.1 2 ≤ 8) (h : RC t r s) : RC t r' s' := by
  refine ⟨fun k hk => ?_, fun k hk hk2 => ?_⟩
  · rw [hn2] at hk
    obtain ⟨vw, db, st, ins, a, b, d, x, y, z, h1, h2, h3, h4, h5, h6, h7, h8, h9, h10⟩ := h.1 k hk
    refine ⟨vw, db, st, ins, a, b, d, x, y, z, by rw [hn1]; exact h1, h2, by rw [e14, e14, e14, e14]; exact h3, by rw [e26 k (by omega)]; exact h4, by rw [e16, e16, e16]; exact h5, by rw [e28 k (by omega)]; exact h6, by rw [e17, e17, e17]; exact h7, by rw [e29 k (by omega)]; exact h8, fun j hj => ?_, h10⟩
    rw [e27 _ (by omega), e15]
    exact h9 j hj
  · rw [hn2] at hk
    rw [e28 k hk2, e29 k hk2]
    obtain ⟨h1, h2, h3⟩ := h.2 k hk hk2
    exact ⟨h1, h2, fun j hj => by rw [e27 _ (by omega)]; exact h3 j hj⟩
theorem RF9_fr (e10 : ∀ k c, s'.2.1 10 k c = s.2.1 10 k c) (e11 : ∀ c, s'.2.1 11 0 c = s.2.1 11 0 c) (e22 : ∀ j, r' 22 j = r 22 j) (h : RF9 r s) : RF9 r' s' := by
  unfold RF9 at h ⊢
  simp only [e10, e11, e22]
  exact h
theorem RD_fr (e8 : ∀ k c, s'.2.1 8 k c = s.2.1 8 k c) (e23 : ∀ j, r' 23 j = r 23 j) (h : RD r s) : RD r' s' := by
  unfold RD D1 at h ⊢
  simp only [e8, e23]
  exact h
theorem RS_fr (hn : s'.1 0 = s.1 0) (e6 : ∀ k c, s'.2.1 6 k c = s.2.1 6 k c) (h : RS fa mo T s) : RS fa mo T s' := by
  unfold RS at h ⊢
  simp only [hn, e6]
  exact h
/-- the class's part alike, the rows alike but for those that nobody reads -/
theorem Rg_ag (hn : s'.1 = s.1) (e : ∀ a b c, a < 20 → s'.2.1 a b c = s.2.1 a b c) (h : Rg t fa mo T r s) : Rg t fa mo T r s' := by
  obtain ⟨h0, h1, h2, h3, h4, h5, h6⟩ := h
  exact ⟨R0_fr hn (fun _ => e _ _ _ (by decide)) (fun _ => e _ _ _ (by decide)) (fun _ => e _ _ _ (by decide)) (e _ _ _ (by decide)) (fun _ => rfl) h0, RPe_fr (by rw [hn]) (fun _ _ => e _ _ _ (by decide)) (fun _ _ => rfl) (fun _ _ => rfl) h0.2.2.2.1.1 h1,
    RV_fr (by rw [hn]) (by rw [hn]) (fun _ _ => e _ _ _ (by decide)) (fun _ => e _ _ _ (by decide)) (fun _ _ => rfl) (fun _ => rfl) h0.2.2.2.1.2.1 h2, RC_fr (by rw [hn]) (by rw [hn]) (fun _ _ => e _ _ _ (by decide)) (fun _ _ => e _ _ _ (by decide)) (fun _ _ => e _ _ _ (by decide)) (fun _ _ => e _ _ _ (by decide)) (fun _ _ => rfl) (fun _ _ => rfl) (fun _ _ => rfl) (fun _ _ => rfl) h0.2.2.2.1.2.2 h3,
    RF9_fr (fun _ _ => e _ _ _ (by decide)) (fun _ => e _ _ _ (by decide)) (fun _ => rfl) h4, RD_fr (fun _ _ => e _ _ _ (by decide)) (fun _ => rfl) h5, RS_fr (by rw [hn]) (fun _ _ => e _ _ _ (by decide)) h6⟩
theorem Rg_mono {t2 : Nat} (ht : t ≤ t2) (h : Rg t fa mo T r s) : Rg t2 fa mo T r s := by
  obtain ⟨⟨a, b, c, d, e, dy, h0, h01⟩, h1, h2, h3, h4, h5, h6⟩ := h
  refine ⟨⟨a, b, c, d, e, dy, Nat.le_trans h0 (Nat.mul_le_mul_left _ ht), h01⟩, h1, h2, ⟨fun k hk => ?_, h3.2⟩, h4, h5, h6⟩
  obtain ⟨vw, db, st, ins, a, b, d, x, y, z, q1, q2, q3, q4, q5, q6, q7, q8, q9, q10⟩ := h3.1 k hk
  refine ⟨vw, db, st, ins, a, b, d, x, y, z, q1, q2, q3, q4, q5, q6, q7, q8, fun j hj => ?_, q10⟩
  obtain ⟨w1, w2, w3⟩ := q9 j hj
  exact ⟨w1, by omega, by omega⟩
theorem Rl_mono {t2 : Nat} (ht : t ≤ t2) (h : Rl t s) : Rl t2 s := by
  obtain ⟨fa, mo, T, h⟩ := h
  exact ⟨fa, mo, T, Rg_mono ht h⟩
end Frs
/-! class and law: the small ones -/
theorem clN {j : Nat} (h : j < 2 ^ 30) : cl (nI j) = j := nI_clamp (by omega)
theorem iC_N {s : Sg} {k j : Nat} (hs : s.1 k < 100) (hj : j < 2 ^ 30) : iC s k (nI j) ↔ j < s.1 k := by
  constructor
  · intro h
    obtain ⟨q, hq, e⟩ := iC_ex h hs
    rw [(nI_eq (by omega) (by omega)).mp e]
    exact hq
  · intro h
    exact iC_nI h hs
theorem rgN {j b : Nat} (hj : j < 2 ^ 30) (hb : b < 2 ^ 30) : (0 ≤ nI j ∧ nI j < nI b) ↔ j < b := ⟨fun h => (nI_ltI (by omega) (by omega)).mp h.2, fun h => ⟨Int32.not_lt.mp (nI_pos (by omega)), nI_lt h (by omega)⟩⟩
theorem rgL {j b : Nat} (hj : j < 2 ^ 30) (hb : b < 2 ^ 30) : (0 ≤ nI j ∧ nI j ≤ nI b) ↔ j ≤ b := ⟨fun h => (nI_leI (by omega) (by omega)).mp h.2, fun h => ⟨Int32.not_lt.mp (nI_pos (by omega)), nI_le h (by omega)⟩⟩
theorem n0 {j : Nat} (hj : j < 2 ^ 30) : nI j = 0 ↔ j = 0 := nI_eq (b := 0) (by omega) (by decide)
def Dn (e : Int32) (t : Nat) : Nt := fun v s2 => v = some (aI e) ∧ Rl t s2
/-- .. and one int of the law's rows is known -/
def Dnr (e : Int32) (t a c : Nat) (x : Int32) : Nt := fun v s2 => v = some (aI e) ∧ Rl t s2 ∧ s2.2.1 a 0 c = x
theorem Rl_of {t : Nat} {fa mo : Nat → Nat} {T : Nat → Nat → Nat} {s : Sg} (h : Rg t fa mo T (rows s) s) : Rl t s := ⟨fa, mo, T, h⟩
section Rgs
variable {t : Nat} {fa mo : Nat → Nat} {T : Nat → Nat → Nat} {r : Rw} {s : Sg} {X : Xt}
theorem Rg_CI (h : Rg t fa mo T r s) : CI s := h.1.1
theorem Rg_GI (h : Rg t fa mo T r s) : GI s := h.1.2.1
theorem Rg_n (h : Rg t fa mo T r s) : s.1 0 ≤ 16 ∧ s.1 1 ≤ 16 ∧ s.1 2 ≤ 8 := h.1.2.2.2.1
theorem Rl_scr {a c : Nat} {v : Int32} (hs : (a = 20 ∧ 16 ≤ c) ∨ (a = 21 ∧ 32 ≤ c) ∨ (a = 24 ∧ 16 ≤ c) ∨ (a = 26 ∧ 8 ≤ c) ∨ (a = 27 ∧ 56 ≤ c) ∨ (a = 28 ∧ 8 ≤ c)) (h : Rl t s) : Rl t (stS s a 0 c v) := by
  obtain ⟨fa, mo, T, h0, hP, h2, h3, h4, h5, h6⟩ := h
  have hn := h0.2.2.2.1
  have o : ∀ x i j, ¬ (x = a ∧ i = 0 ∧ j = c) → (stS s a 0 c v).2.1 x i j = s.2.1 x i j := fun x i j hx => by rw [stS_get, if_neg hx]
  exact ⟨fa, mo, T, R0_fr (r := rows s) (s := s) rfl (fun _ => o _ _ _ (by omega)) (fun _ => o _ _ _ (by omega)) (fun _ => o _ _ _ (by omega)) (o _ _ _ (by omega)) (fun _ => o _ _ _ (by omega)) h0, RPe_fr (r := rows s) (s := s) rfl (fun _ _ => o _ _ _ (by omega)) (fun _ _ => o _ _ _ (by omega)) (fun _ _ => o _ _ _ (by omega)) hn.1 hP,
    RV_fr (r := rows s) (s := s) rfl rfl (fun _ _ => o _ _ _ (by omega)) (fun _ => o _ _ _ (by omega)) (fun _ _ => o _ _ _ (by omega)) (fun _ => o _ _ _ (by omega)) hn.2.1 h2,
    RC_fr (r := rows s) (s := s) rfl rfl (fun _ _ => o _ _ _ (by omega)) (fun _ _ => o _ _ _ (by omega)) (fun _ _ => o _ _ _ (by omega)) (fun _ _ => o _ _ _ (by omega)) (fun _ _ => o _ _ _ (by omega)) (fun _ _ => o _ _ _ (by omega)) (fun _ _ => o _ _ _ (by omega)) (fun _ _ => o _ _ _ (by omega)) hn.2.2 h3,
    RF9_fr (r := rows s) (s := s) (fun _ _ => o _ _ _ (by omega)) (fun _ => o _ _ _ (by omega)) (fun _ => o _ _ _ (by omega)) h4, RD_fr (r := rows s) (s := s) (fun _ _ => o _ _ _ (by omega)) (fun _ => o _ _ _ (by omega)) h5, RS_fr (s := s) rfl (fun _ _ => o _ _ _ (by omega)) h6⟩
theorem Rl_CI (h : Rl t s) : CI s := h.elim fun _ h => h.elim fun _ h => h.elim fun _ h => h.1.1
theorem Rl_GI (h : Rl t s) : GI s := h.elim fun _ h => h.elim fun _ h => h.elim fun _ h => h.1.2.1
theorem Rl_n (h : Rl t s) : s.1 0 ≤ 16 ∧ s.1 1 ≤ 16 ∧ s.1 2 ≤ 8 := h.elim fun _ h => h.elim fun _ h => h.elim fun _ h => h.1.2.2.2.1
end Rgs

