/-! class and model: the small bridges -/
theorem in_iff {n : Nat} (hn : n < 2 ^ 30) {p : Int32} : (0 ≤ p ∧ p < nI n) ↔ inR p 0 (nI n - 1) := by
  constructor
  · rintro ⟨h0, h1⟩
    have hnn : ¬ p < 0 := Int32.not_lt.mpr h0
    obtain ⟨j, hj, rfl⟩ := nI_of hnn
    have hjn := (nI_ltI hj (by omega)).mp h1
    refine ⟨hnn, ?_⟩
    obtain ⟨k, rfl⟩ : ∃ k, n = k + 1 := ⟨n - 1, by omega⟩
    rw [nI_pred]
    exact nI_nlt (by omega) (by omega)
  · rintro ⟨h0, h1⟩
    obtain ⟨j, hj, rfl⟩ := nI_of h0
    refine ⟨Int32.not_lt.mp h0, ?_⟩
    cases n with
    | zero =>
      refine absurd ?_ h1
      show nI 0 - 1 < nI j
      rw [Int32.lt_iff_toInt_lt, nI_toInt hj, show (nI 0 - 1).toInt = -1 from rfl]
      omega
    | succ k =>
      rw [nI_pred] at h1
      refine nI_lt ?_ (by omega)
      have h9 : ¬ k < j := fun hc => h1 (nI_lt hc hj)
      omega
theorem iC_isP {s : Sg} (h : s.2.1 20 0 1 = nI (s.1 0)) (hn : s.1 0 ≤ 24) {p : Int32} : iC s 0 p ↔ isP s p := by
  unfold isP
  rw [h, ← in_iff (by omega)]
  exact ⟨of_eq_true, eq_true⟩
theorem iC_isV {s : Sg} (h : s.2.1 20 0 12 = nI (s.1 1)) (hn : s.1 1 ≤ 30) {p : Int32} : iC s 1 p ↔ isV s p := by
  unfold isV
  rw [h, ← in_iff (by omega)]
  exact ⟨of_eq_true, eq_true⟩
theorem iC_isC {s : Sg} (h : s.2.1 20 0 21 = nI (s.1 2)) (hn : s.1 2 ≤ 30) {p : Int32} : iC s 2 p ↔ isC s p := by
  unfold isC
  rw [h, ← in_iff (by omega)]
  exact ⟨of_eq_true, eq_true⟩
theorem rg_iff {p a b : Int32} : inR p a b ↔ a ≤ p ∧ p ≤ b := ⟨fun h => ⟨Int32.not_lt.mp h.1, Int32.not_lt.mp h.2⟩, fun h => ⟨Int32.not_lt.mpr h.1, Int32.not_lt.mpr h.2⟩⟩
theorem lt3 {r : Int32} : r < 3 ↔ r ≤ 2 := by
  rw [Int32.lt_iff_toInt_lt, Int32.le_iff_toInt_le, show (3 : Int32).toInt = 3 from rfl, show (2 : Int32).toInt = 2 from rfl]
  omega
theorem lt5 {r : Int32} : r < 5 ↔ r ≤ 4 := by
  rw [Int32.lt_iff_toInt_lt, Int32.le_iff_toInt_le, show (5 : Int32).toInt = 5 from rfl, show (4 : Int32).toInt = 4 from rfl]
  omega
theorem lt6 {r : Int32} : r < 6 ↔ r ≤ 5 := by
  rw [Int32.lt_iff_toInt_lt, Int32.le_iff_toInt_le, show (6 : Int32).toInt = 6 from rfl, show (5 : Int32).toInt = 5 from rfl]
  omega
theorem lt7 {r : Int32} : r < 7 ↔ r ≤ 6 := by
  rw [Int32.lt_iff_toInt_lt, Int32.le_iff_toInt_le, show (7 : Int32).toInt = 7 from rfl, show (6 : Int32).toInt = 6 from rfl]
  omega
theorem lt8 {r : Int32} : r < 8 ↔ r ≤ 7 := by
  rw [Int32.lt_iff_toInt_lt, Int32.le_iff_toInt_le, show (8 : Int32).toInt = 8 from rfl, show (7 : Int32).toInt = 7 from rfl]
  omega
/-- a state that is as another one in some places -/
def ag (k : Nat → Nat → Nat → Bool) (s s' : Sg) : Prop := ∀ a b c, k a b c = true → s'.2.1 a b c = s.2.1 a b c
section Ags
variable {k : Nat → Nat → Nat → Bool} {s s1 : Sg}
theorem ag_rf : ag k s s := fun _ _ _ _ => rfl
theorem ag_tr {s2 : Sg} (h : ag k s s1) (h2 : ag k s1 s2) : ag k s s2 := fun a b c ha => (h2 a b c ha).trans (h a b c ha)
theorem ag_st {t i j : Nat} {v : Int32} (hk : k t i j = false) (h : ag k s s1) : ag k s (stS s1 t i j v) := fun a b c ha => by
  rw [stS_get, if_neg (by rintro ⟨rfl, rfl, rfl⟩; rw [hk] at ha; cases ha)]
  exact h a b c ha
theorem ag_O {o : Int64} (h : ag k s s1) : ag k s (stO s1 o) := h
theorem ag_R {t b n : Nat} {v : Int32} (hk : ∀ c, k t 0 c = false) (h : ag k s s1) : ag k s (stR s1 t b n v) := fun x y z ha => by
  rw [stR_get, if_neg (by rintro ⟨rfl, rfl, -⟩; rw [hk z] at ha; cases ha)]
  exact h x y z ha
theorem ag_F {t b n : Nat} {f : Nat → Int32} (hk : ∀ c, k t 0 c = false) (h : ag k s s1) : ag k s (stF s1 t b n f) := fun x y z ha => by
  show (if x = t ∧ y = 0 ∧ b ≤ z ∧ z < b + n then f (z - b) else s1.2.1 x y z) = _
  rw [if_neg (by rintro ⟨rfl, rfl, -⟩; rw [hk z] at ha; cases ha)]
  exact h x y z ha
theorem ag_I {t i n : Nat} {v : Int32} (hk : ∀ c, k t i c = false) (h : ag k s s1) : ag k s (stI s1 t i n v) := fun x y z ha => by
  rw [stI_get, if_neg (by rintro ⟨rfl, rfl, -⟩; rw [hk z] at ha; cases ha)]
  exact h x y z ha
theorem ag_tw {l : List Int32} (hk : ∀ c, k 51 0 c = false) (hk2 : k 20 0 30 = false) (h : ag k s s1) : ag k s (tw s1 l) := fun x y z ha => by
  show (if x = 51 ∧ y = 0 ∧ z < l.length then l.getD z 0 else if x = 20 ∧ y = 0 ∧ z = 30 then nI l.length else s1.2.1 x y z) = _
  rw [if_neg (by rintro ⟨rfl, rfl, -⟩; rw [hk z] at ha; cases ha), if_neg (by rintro ⟨rfl, rfl, rfl⟩; rw [hk2] at ha; cases ha)]
  exact h x y z ha
theorem ag_die {p : Int32} {K : Nat} (h1 : ∀ c, k 39 0 c = false) (h2 : ∀ c, k 40 0 c = false) (h : ag k s s1) : ag k s (dieS s1 p K) := fun x y z ha => by
  rw [dieS_get, if_neg (by rintro ⟨rfl, rfl, -⟩; rw [h1 z] at ha; cases ha), if_neg (by rintro ⟨rfl, rfl, -⟩; rw [h2 z] at ha; cases ha)]
  exact h x y z ha
theorem ag_ev {p t : Int32} (h1 : ∀ i, k 13 i 6 = false) (h2 : ∀ i, k 13 i 7 = false) (h : ag k s s1) : ∀ K, ag k s (evS s1 p t K)
  | 0 => h
  | K + 1 => by
    unfold evS
    by_cases hb : evB (evS s1 p t K) K p
    · rw [iteP_t hb]; exact ag_st (h2 K) (ag_st (h1 K) (ag_ev h1 h2 h K))
    · rw [iteP_f hb]; exact ag_ev h1 h2 h K
end Ags
/-- the places that each clause of the relation reads -/
def kR (a b c : Nat) : Bool := (Nat.beq a 13 && Nat.ble c 1) || (Nat.beq a 14 && Nat.beq c 0) || (Nat.beq a 20 && Nat.beq b 0 && (Nat.beq c 0 || Nat.beq c 1 || Nat.beq c 12 || Nat.beq c 21)) || (Nat.beq a 1 && Nat.beq b 0 && Nat.beq c 7)
def kP (a _ _ : Nat) : Bool := Nat.beq a 12 || (Nat.ble 22 a && Nat.ble a 27)
def kB (a _ c : Nat) : Bool := (Nat.beq a 12 && Nat.beq c 0) || (Nat.beq a 1 && Nat.beq c 7)
def kE (a _ _ : Nat) : Bool := Nat.beq a 11 || Nat.beq a 31
def kU (a _ _ : Nat) : Bool := Nat.beq a 10 || Nat.beq a 30
def kD (a _ _ : Nat) : Bool := Nat.beq a 8 || Nat.beq a 29
def kS (a _ _ : Nat) : Bool := Nat.beq a 6 || Nat.beq a 28
def kV (a _ _ : Nat) : Bool := Nat.beq a 13 || (Nat.ble 33 a && Nat.ble a 40)
def kL (a _ c : Nat) : Bool := (Nat.beq a 13 && (Nat.ble c 1 || Nat.beq c 6)) || (Nat.beq a 12 && Nat.beq c 5)
def kC (a _ _ : Nat) : Bool := (Nat.ble 14 a && Nat.ble a 17) || (Nat.ble 42 a && Nat.ble a 49)
/-- the scalars and what keeps class and model within bounds; D: days gone at most -/
def R0 (D : Nat) (s : Sg) : Prop := CI s ∧ GI s ∧ MI s ∧ (s.1 12 = 0 ∧ s.1 17 = 0 ∧ s.1 0 ≤ 24 ∧ s.1 1 ≤ 30 ∧ s.1 2 ≤ 30) ∧
  (s.2.1 20 0 1 = nI (s.1 0) ∧ s.2.1 20 0 12 = nI (s.1 1) ∧ s.2.1 20 0 21 = nI (s.1 2)) ∧ ∃ d, d ≤ D ∧ s.2.1 1 0 7 = nI d ∧ s.2.1 20 0 0 = nI d
theorem CI_ag {s s' : Sg} (hn : s'.1 = s.1) (e : ag kR s s') (h : CI s) : CI s' := by
  have h := of_eq_true h
  have eC : ∀ k j, iC s' k j = iC s k j := fun k j => by unfold iC; rw [hn]
  have eG : ∀ a, Gd s' a = Gd s a := fun a => by unfold Gd; rw [hn]
  refine eq_true ⟨by rw [eG]; exact h.1, by rw [eG]; exact h.2.1, by rw [eG]; exact h.2.2.1, by rw [hn]; exact h.2.2.2.1, fun a ha => ?_, fun a ha => ?_⟩
  · rw [e 13 a 0 rfl, e 13 a 1 rfl, eC, eC]
    exact h.2.2.2.2.1 a (by show a < s.1 1 + s.1 7; rw [← hn]; exact ha)
  · rw [e 14 a 0 rfl, eC]
    exact h.2.2.2.2.2 a (by show a < s.1 2 + s.1 8; rw [← hn]; exact ha)
theorem MI_ag {s s' : Sg} (e : ag kR s s') (h : MI s) : MI s' := by
  unfold MI MI0 at h ⊢
  rw [e 20 0 1 rfl, e 20 0 12 rfl, e 20 0 21 rfl]
  exact h
theorem R0_ag {D : Nat} {s s' : Sg} (hn : s'.1 = s.1) (e : ag kR s s') (h : R0 D s) : R0 D s' := by
  obtain ⟨a, b, c, d, ⟨e1, e2, e3⟩, dy, hd, f1, f2⟩ := h
  refine ⟨CI_ag hn e a, by unfold GI at b ⊢; rw [hn]; exact b, MI_ag e c, by rw [hn]; exact d, ?_, dy, hd, ?_, ?_⟩
  · rw [e 20 0 1 rfl, e 20 0 12 rfl, e 20 0 21 rfl, hn]
    exact ⟨e1, e2, e3⟩
  · rw [e 1 0 7 rfl]; exact f1
  · rw [e 20 0 0 rfl]; exact f2
/-- persons, in both -/
def RPp (s : Sg) (p : Nat) : Prop := s.2.1 22 0 p = s.2.1 12 p 0 ∧ s.2.1 23 0 p = s.2.1 12 p 1 ∧ s.2.1 24 0 p = s.2.1 12 p 2 ∧ s.2.1 25 0 p = s.2.1 12 p 3 ∧ s.2.1 26 0 p = s.2.1 12 p 4 ∧ ((s.2.1 27 0 p = 0 ∧ s.2.1 12 p 5 = 1) ∨ (s.2.1 27 0 p = 1 ∧ s.2.1 12 p 5 = 0))
def RPs (s : Sg) : Prop := ∀ q, q < s.1 0 → RPp s q
theorem RPs_ag {s s' : Sg} (hn : s'.1 0 = s.1 0) (e : ag kP s s') (h : RPs s) : RPs s' := fun q hq => by
  have h9 := h q (by rw [← hn]; exact hq)
  unfold RPp at h9 ⊢
  rw [e 22 0 q rfl, e 23 0 q rfl, e 24 0 q rfl, e 25 0 q rfl, e 26 0 q rfl, e 27 0 q rfl, e 12 q 0 rfl, e 12 q 1 rfl, e 12 q 2 rfl, e 12 q 3 rfl, e 12 q 4 rfl, e 12 q 5 rfl]
  exact h9
/-- not yet told persons, in the model -/
def RPf (s : Sg) : Prop := ∀ q, s.1 0 ≤ q → s.2.1 24 0 q = 0 ∧ s.2.1 25 0 q = 0 ∧ s.2.1 26 0 q = 0 ∧ s.2.1 27 0 q = 0
theorem RPf_ag {s s' : Sg} (hn : s'.1 0 = s.1 0) (e : ag kP s s') (h : RPf s) : RPf s' := fun q hq => by
  have h9 := h q (by rw [← hn]; exact hq)
  rw [e 24 0 q rfl, e 25 0 q rfl, e 26 0 q rfl, e 27 0 q rfl]
  exact h9
/-- days of birth -/
def RB (s : Sg) : Prop := ∀ q, q < s.1 0 → -36000 ≤ (s.2.1 12 q 0).toInt ∧ (s.2.1 12 q 0).toInt ≤ (s.2.1 1 0 7).toInt
theorem RB_ag {s s' : Sg} (hn : s'.1 0 = s.1 0) (e : ag kB s s') (h : RB s) : RB s' := fun q hq => by
  have h9 := h q (by rw [← hn]; exact hq)
  rw [e 12 q 0 rfl, e 1 0 7 rfl]
  exact h9
def REr (s : Sg) : Prop := ∀ a, a < 8 → s.2.1 31 0 a = s.2.1 11 0 a
theorem REr_ag {s s' : Sg} (e : ag kE s s') (h : REr s) : REr s' := fun q hq => by
  rw [e 31 0 q rfl, e 11 0 q rfl]
  exact h q hq
def RUn (s : Sg) : Prop := ∀ w a, w < 6 → a < 8 → s.2.1 30 0 (8 * w + a) = s.2.1 10 w a
theorem RUn_ag {s s' : Sg} (e : ag kU s s') (h : RUn s) : RUn s' := fun w a hw ha => by
  rw [e 30 0 _ rfl, e 10 w a rfl]
  exact h w a hw ha
/-- what is dispensed, as bits -/
def D3 (a b c : Int32) : Int32 := (if a = 0 then 0 else 1) ||| (if b = 0 then 0 else 2) ||| (if c = 0 then 0 else 8)
def RDs (s : Sg) : Prop := ∀ p q, p < q → q < 24 → s.2.1 8 p q = D3 (s.2.1 29 0 (3 * (24 * p + q))) (s.2.1 29 0 (3 * (24 * p + q) + 1)) (s.2.1 29 0 (3 * (24 * p + q) + 2)) ∧ s.2.1 8 q p = s.2.1 8 p q
theorem RDs_ag {s s' : Sg} (e : ag kD s s') (h : RDs s) : RDs s' := fun p q hp hq => by
  rw [e 8 p q rfl, e 8 q p rfl, e 29 0 _ rfl, e 29 0 _ rfl, e 29 0 _ rfl]
  exact h p q hp hq
/-- steps -/
def RSt (s : Sg) : Prop := (∀ p k, p < s.1 0 → k < 24 → s.2.1 28 0 (24 * p + k) = s.2.1 6 p k ∧ ((k = p ∧ s.2.1 6 p k = 0) ∨ (k < p ∧ ∃ j, 1 ≤ j ∧ j ≤ p ∧ s.2.1 6 p k = nI j) ∨ (¬ k = p ∧ s.2.1 6 p k = 100))) ∧ ∀ p k, s.1 0 ≤ p → p < 24 → k < 24 → s.2.1 6 p k = 100
theorem RSt_ag {s s' : Sg} (hn : s'.1 0 = s.1 0) (e : ag kS s s') (h : RSt s) : RSt s' := ⟨fun p k hp hk => by
  rw [e 28 0 _ rfl, e 6 p k rfl]
  exact h.1 p k (by rw [← hn]; exact hp) hk, fun p k hp h24 hk => by
  rw [e 6 p k rfl]
  exact h.2 p k (by rw [← hn]; exact hp) h24 hk⟩
/-- vows, in both -/
def RVv (s : Sg) (v : Nat) : Prop := (s.2.1 33 0 v = s.2.1 13 v 0 ∧ s.2.1 34 0 v = s.2.1 13 v 1 ∧ s.2.1 35 0 v = s.2.1 13 v 2 ∧ s.2.1 36 0 v = s.2.1 13 v 3) ∧ (s.2.1 38 0 v = s.2.1 13 v 4 ∧ s.2.1 37 0 v = s.2.1 13 v 5 ∧ s.2.1 39 0 v = s.2.1 13 v 6 ∧ s.2.1 40 0 v = s.2.1 13 v 7) ∧ ∃ n, n < 12 ∧ n &&& 4 = 0 ∧ s.2.1 13 v 4 = nI n
def RVs (s : Sg) : Prop := ∀ v, v < s.1 1 → RVv s v
theorem RVs_ag {s s' : Sg} (hn : s'.1 1 = s.1 1) (e : ag kV s s') (h : RVs s) : RVs s' := fun v hv => by
  have h9 := h v (by rw [← hn]; exact hv)
  unfold RVv at h9 ⊢
  rw [e 33 0 v rfl, e 34 0 v rfl, e 35 0 v rfl, e 36 0 v rfl, e 37 0 v rfl, e 38 0 v rfl, e 39 0 v rfl, e 40 0 v rfl, e 13 v 0 rfl, e 13 v 1 rfl, e 13 v 2 rfl, e 13 v 3 rfl, e 13 v 4 rfl, e 13 v 5 rfl, e 13 v 6 rfl, e 13 v 7 rfl]
  exact h9
def RVf (s : Sg) : Prop := ∀ v, s.1 1 ≤ v → s.2.1 39 0 v = 0
theorem RVf_ag {s s' : Sg} (hn : s'.1 1 = s.1 1) (e : ag kV s s') (h : RVf s) : RVf s' := fun v hv => by
  rw [e 39 0 v rfl]
  exact h v (by rw [← hn]; exact hv)
/-- those of a vow that stands live -/
def RVl (s : Sg) : Prop := ∀ v, v < s.1 1 → s.2.1 13 v 6 = 0 → ¬ s.2.1 12 (cl (s.2.1 13 v 0)) 5 = 0 ∧ ¬ s.2.1 12 (cl (s.2.1 13 v 1)) 5 = 0
theorem RVl_ag {s s' : Sg} (hn : s'.1 1 = s.1 1) (e : ag kL s s') (h : RVl s) : RVl s' := fun v hv => by
  rw [e 13 v 0 rfl, e 13 v 1 rfl, e 13 v 6 rfl, e 12 _ 5 rfl, e 12 _ 5 rfl]
  exact h v (by rw [← hn]; exact hv)
/-- causes, in both -/
def RCc (s : Sg) (c : Nat) : Prop := (s.2.1 42 0 c = s.2.1 14 c 0 ∧ s.2.1 43 0 c = s.2.1 14 c 1 ∧ s.2.1 44 0 c = s.2.1 14 c 2 ∧ s.2.1 45 0 c = s.2.1 14 c 3) ∧ (∀ g, g < 7 → s.2.1 46 0 (7 * c + g) = s.2.1 15 c g) ∧ (∀ j, j < 3 → s.2.1 48 0 (3 * c + j) = s.2.1 16 c j) ∧ (∀ j, j < 3 → s.2.1 49 0 (3 * c + j) = s.2.1 17 c j) ∧ s.2.1 47 0 c = vcC s c
def RCs (s : Sg) : Prop := ∀ c, c < s.1 2 → RCc s c
theorem RCs_ag {s s' : Sg} (hn : s'.1 2 = s.1 2) (e : ag kC s s') (h : RCs s) : RCs s' := fun c hc => by
  have h9 := h c (by rw [← hn]; exact hc)
  unfold RCc vcC at h9 ⊢
  rw [e 42 0 c rfl, e 43 0 c rfl, e 44 0 c rfl, e 45 0 c rfl, e 47 0 c rfl, e 14 c 0 rfl, e 14 c 1 rfl, e 14 c 2 rfl, e 14 c 3 rfl, e 16 c 0 rfl, e 16 c 1 rfl, e 16 c 2 rfl]
  exact ⟨h9.1, fun g hg => by rw [e 46 0 _ rfl, e 15 c g rfl]; exact h9.2.1 g hg, fun j hj => by rw [e 48 0 _ rfl, e 16 c j rfl]; exact h9.2.2.1 j hj, fun j hj => by rw [e 49 0 _ rfl, e 17 c j rfl]; exact h9.2.2.2.1 j hj, h9.2.2.2.2⟩
/-- what a cause holds, within bounds -/
def rn (x : Int32) : Prop := ∃ n, n < 128 ∧ x = nI n
def RCd (s : Sg) (c : Nat) : Prop := rn (s.2.1 14 c 1) ∧ (s.2.1 14 c 3 = 1 ∨ s.2.1 14 c 3 = 2 ∨ s.2.1 14 c 3 = 3) ∧ (∀ j, j < 3 → s.2.1 16 c j = -1 ∨ rn (s.2.1 16 c j)) ∧ (¬ s.2.1 14 c 3 = 1 → rn (s.2.1 17 c 0)) ∧ (s.2.1 14 c 3 = 3 → rn (s.2.1 17 c 1)) ∧ (s.2.1 14 c 2 = 3 → rn (s.2.1 17 c 0))
def RCr (s : Sg) : Prop := ∀ c, c < s.1 2 → RCd s c
theorem RCr_ag {s s' : Sg} (hn : s'.1 2 = s.1 2) (e : ag kC s s') (h : RCr s) : RCr s' := fun c hc => by
  have h9 := h c (by rw [← hn]; exact hc)
  unfold RCd at h9 ⊢
  rw [e 14 c 1 rfl, e 14 c 2 rfl, e 14 c 3 rfl, e 17 c 0 rfl, e 17 c 1 rfl]
  exact ⟨h9.1, h9.2.1, fun j hj => by rw [e 16 c j rfl]; exact h9.2.2.1 j hj, h9.2.2.2⟩
def RCf (s : Sg) : Prop := ∀ c, s.1 2 ≤ c → s.2.1 44 0 c = 0 ∧ s.2.1 47 0 c = 0 ∧ ∀ g, g < 7 → s.2.1 46 0 (7 * c + g) = 0
theorem RCf_ag {s s' : Sg} (hn : s'.1 2 = s.1 2) (e : ag kC s s') (h : RCf s) : RCf s' := fun c hc => by
  have h9 := h c (by rw [← hn]; exact hc)
  rw [e 44 0 c rfl, e 47 0 c rfl]
  exact ⟨h9.1, h9.2.1, fun g hg => by rw [e 46 0 _ rfl]; exact h9.2.2 g hg⟩
/-- class and model alike -/
def Rl (D : Nat) (s : Sg) : Prop := R0 D s ∧ RPs s ∧ RPf s ∧ RB s ∧ REr s ∧ RUn s ∧ RDs s ∧ RSt s ∧ RVs s ∧ RVf s ∧ RVl s ∧ RCs s ∧ RCr s ∧ RCf s
theorem R0_mono {D D' : Nat} {s : Sg} (hD : D ≤ D') (h : R0 D s) : R0 D' s := by
  obtain ⟨a, b, c, d, e, dy, hdy, f⟩ := h
  exact ⟨a, b, c, d, e, dy, Nat.le_trans hdy hD, f⟩
theorem Rl_mono {D D' : Nat} {s : Sg} (hD : D ≤ D') (h : Rl D s) : Rl D' s := ⟨R0_mono hD h.1, h.2⟩
/-- writes that the relation doesn't read -/
def kA (a b c : Nat) : Bool := kR a b c || kP a b c || kB a b c || kE a b c || kU a b c || kD a b c || kS a b c || kV a b c || kC a b c
theorem Rl_q {D : Nat} {s s' : Sg} (hn : s'.1 = s.1) (e : ag kA s s') (h : Rl D s) : Rl D s' := by
  obtain ⟨h0, hP, hPf, hB, hE, hU, hD, hS, hV, hVf, hVl, hC, hCr, hCf⟩ := h
  have w : ∀ k : Nat → Nat → Nat → Bool, (∀ a b c, k a b c = true → kA a b c = true) → ag k s s' := fun k hk a b c ha => e a b c (hk a b c ha)
  have n0 : ∀ i, s'.1 i = s.1 i := fun i => by rw [hn]
  refine ⟨R0_ag hn (w _ ?_) h0, RPs_ag (n0 0) (w _ ?_) hP, RPf_ag (n0 0) (w _ ?_) hPf, RB_ag (n0 0) (w _ ?_) hB, REr_ag (w _ ?_) hE, RUn_ag (w _ ?_) hU, RDs_ag (w _ ?_) hD, RSt_ag (n0 0) (w _ ?_) hS, RVs_ag (n0 1) (w _ ?_) hV, RVf_ag (n0 1) (w _ ?_) hVf, RVl_ag (n0 1) (w _ ?_) hVl, RCs_ag (n0 2) (w _ ?_) hC, RCr_ag (n0 2) (w _ ?_) hCr, RCf_ag (n0 2) (w _ ?_) hCf⟩
  all_goals intro a b c hk
  all_goals unfold kA
  all_goals simp only [Bool.or_eq_true]
  all_goals first | (simp [hk]; done) | skip
  unfold kL at hk
  simp only [Bool.or_eq_true, Bool.and_eq_true] at hk
  unfold kV kP
  simp only [Bool.or_eq_true, Bool.and_eq_true]
  rcases hk with hk | hk
  · simp [hk.1]
  · simp [hk.1]
section Acc
variable {D : Nat} {s : Sg}
theorem Rl_th {k : Int32} (h : Rl D s) : Rl D (th s k) := Rl_q (s := s) (s' := th s k) rfl (ag_st rfl ag_rf) h
theorem Rl_stO {o : Int64} (h : Rl D s) : Rl D (stO s o) := h
theorem Rl_M (h : Rl D s) : MI s := h.1.2.2.1
theorem Rl_CI (h : Rl D s) : CI s := h.1.1
theorem Rl_GI (h : Rl D s) : GI s := h.1.2.1
theorem Rl_n (h : Rl D s) : s.1 0 ≤ 24 ∧ s.1 1 ≤ 30 ∧ s.1 2 ≤ 30 := h.1.2.2.2.1.2.2
theorem Rl_p (h : Rl D s) {p : Int32} : iC s 0 p ↔ isP s p := iC_isP h.1.2.2.2.2.1.1 (Rl_n h).1
theorem Rl_v (h : Rl D s) {p : Int32} : iC s 1 p ↔ isV s p := iC_isV h.1.2.2.2.2.1.2.1 (Rl_n h).2.1
theorem Rl_c (h : Rl D s) {p : Int32} : iC s 2 p ↔ isC s p := iC_isC h.1.2.2.2.2.1.2.2 (Rl_n h).2.2
theorem Rl_npm (h : Rl D s) : npm s = s.1 0 := npm_eq h.1.2.2.2.2.1.1 (Rl_n h).1
theorem Rl_nvm (h : Rl D s) : nvm s = s.1 1 := nvm_eq h.1.2.2.2.2.1.2.1 (Rl_n h).2.1
theorem Rl_ncm (h : Rl D s) : ncm s = s.1 2 := ncm_eq h.1.2.2.2.2.1.2.2 (Rl_n h).2.2
theorem Rl_day (h : Rl D s) : s.2.1 20 0 0 = s.2.1 1 0 7 := by
  obtain ⟨d, -, h1, h2⟩ := h.1.2.2.2.2.2
  rw [h1, h2]
/-- a person's, a vow's, a cause's number -/
theorem Rl_pn (h : Rl D s) {p : Int32} (hp : iC s 0 p) : ∃ q, q < s.1 0 ∧ p = nI q ∧ cl (nI q) = q := by
  obtain ⟨q, hq, rfl⟩ := iC_ex hp (by have := (Rl_n h).1; omega)
  exact ⟨q, hq, rfl, nI_clamp (by have := (Rl_n h).1; omega)⟩
theorem Rl_vn (h : Rl D s) {p : Int32} (hp : iC s 1 p) : ∃ q, q < s.1 1 ∧ p = nI q ∧ cl (nI q) = q := by
  obtain ⟨q, hq, rfl⟩ := iC_ex hp (by have := (Rl_n h).2.1; omega)
  exact ⟨q, hq, rfl, nI_clamp (by have := (Rl_n h).2.1; omega)⟩
theorem Rl_cn (h : Rl D s) {p : Int32} (hp : iC s 2 p) : ∃ q, q < s.1 2 ∧ p = nI q ∧ cl (nI q) = q := by
  obtain ⟨q, hq, rfl⟩ := iC_ex hp (by have := (Rl_n h).2.2; omega)
  exact ⟨q, hq, rfl, nI_clamp (by have := (Rl_n h).2.2; omega)⟩
/-- a vow's persons are persons -/
theorem Rl_v0 (h : Rl D s) {v : Nat} (hv : v < s.1 1) : iC s 0 (s.2.1 13 v 0) ∧ iC s 0 (s.2.1 13 v 1) := (of_eq_true h.1.1).2.2.2.2.1 v (Nat.lt_of_lt_of_le hv (Nat.le_add_right _ _))
theorem Rl_c0 (h : Rl D s) {c : Nat} (hc : c < s.1 2) : iC s 1 (s.2.1 14 c 0) := (of_eq_true h.1.1).2.2.2.2.2 c (Nat.lt_of_lt_of_le hc (Nat.le_add_right _ _))
theorem Rl_W (h : Rl D s) : WI s := by
  refine eq_true ⟨fun k hk => ?_, fun c hc => ?_⟩
  · rw [Rl_nvm h] at hk
    have h9 := h.2.2.2.2.2.2.2.2.1 k hk
    obtain ⟨h1, h2⟩ := Rl_v0 h hk
    rw [h9.1.1, h9.1.2.1]
    obtain ⟨q, hq, e, -⟩ := Rl_pn h h1
    obtain ⟨q', hq', e', -⟩ := Rl_pn h h2
    rw [e, e']
    exact ⟨nIb (by have := (Rl_n h).1; omega) (by decide), nIb (by have := (Rl_n h).1; omega) (by decide)⟩
  · rw [Rl_ncm h] at hc
    have h9 := h.2.2.2.2.2.2.2.2.2.2.2.1 c hc
    obtain ⟨q, hq, e, -⟩ := Rl_vn h (Rl_c0 h hc)
    exact ⟨q, by rw [Rl_nvm h]; exact hq, by rw [h9.1.1, e]⟩
end Acc
def kW (a b c : Nat) : Bool := (Nat.beq a 20 && Nat.beq b 0 && (Nat.beq c 12 || Nat.beq c 21)) || Nat.beq a 33 || Nat.beq a 34 || Nat.beq a 42
theorem WI_ag {s s' : Sg} (e : ag kW s s') (h : WI s) : WI s' := by
  have h := of_eq_true h
  have e1 : nvm s' = nvm s := by unfold nvm; rw [e 20 0 12 rfl]
  have e2 : ncm s' = ncm s := by unfold ncm; rw [e 20 0 21 rfl]
  refine eq_true ⟨fun k hk => ?_, fun c hc => ?_⟩
  · rw [e 33 0 k rfl, e 34 0 k rfl]
    exact h.1 k (by rw [← e1]; exact hk)
  · rw [e 42 0 c rfl, e1]
    exact h.2 c (by rw [← e2]; exact hc)
/-! what a call's two halves must give -/
theorem th_32 {s : Sg} {k : Int32} : (th s k).2.1 20 0 32 = k := by rw [stS_get, if_pos ⟨rfl, rfl, rfl⟩]
/-- the same number of the exception, the same answer, the relation again -/
def okI (D : Nat) (kk : Int32) : Nt := fun b s2 => Rl D s2 ∧ s2.2.1 20 0 32 = kk ∧ ∃ v : Int32, b = some (aI v) ∧ (kk = 0 → s2.2.2 = v.toInt64)
def okZ (D : Nat) (kk : Int32) : Nt := fun b s2 => Rl D s2 ∧ s2.2.1 20 0 32 = kk ∧ ∃ v : Int32, b = some (aI v) ∧ (kk = 0 → (v = 0 ∧ s2.2.2 = 0) ∨ (v = 1 ∧ s2.2.2 = 1))
def okV (D : Nat) (kk : Int32) : Nt := fun b s2 => Rl D s2 ∧ s2.2.1 20 0 32 = kk ∧ b = none
theorem okI_th {D : Nat} {s : Sg} {k v : Int32} (hk : ¬ k = 0) (h : Rl D s) : okI D k (some (aI v)) (th s k) := ⟨Rl_th h, th_32, v, rfl, fun q => absurd q hk⟩
theorem okZ_th {D : Nat} {s : Sg} {k v : Int32} (hk : ¬ k = 0) (h : Rl D s) : okZ D k (some (aI v)) (th s k) := ⟨Rl_th h, th_32, v, rfl, fun q => absurd q hk⟩
theorem okV_th {D : Nat} {s : Sg} {k : Int32} (h : Rl D s) : okV D k none (th s k) := ⟨Rl_th h, th_32, rfl⟩
section Fs
variable {c1 c2 c3 F : Prop} {v : Option AV} {N : Nt} {s : Sg}
theorem f1_1 (h : ¬ c1) (g : N v (th s 1)) : f1 c1 v N s F := ⟨fun _ => g, fun q => absurd q h⟩
theorem f1_0 (h : c1) (g : F) : f1 c1 v N s F := ⟨fun q => absurd h q, fun _ => g⟩
theorem f2_1 (h : ¬ c1) (g : N v (th s 1)) : f2 c1 c2 v N s F := ⟨fun _ => g, fun q => absurd q h, fun q => absurd q h⟩
theorem f2_2 (h : c1) (h2 : ¬ c2) (g : N v (th s 2)) : f2 c1 c2 v N s F := ⟨fun q => absurd h q, fun _ _ => g, fun _ q => absurd q h2⟩
theorem f2_0 (h : c1) (h2 : c2) (g : F) : f2 c1 c2 v N s F := ⟨fun q => absurd h q, fun _ q => absurd h2 q, fun _ _ => g⟩
theorem f3_1 (h : ¬ c1) (g : N v (th s 1)) : f3 c1 c2 c3 v N s F := ⟨fun _ => g, fun q => absurd q h, fun q => absurd q h, fun q => absurd q h⟩
theorem f3_2 (h : c1) (h2 : ¬ c2) (g : N v (th s 2)) : f3 c1 c2 c3 v N s F := ⟨fun q => absurd h q, fun _ _ => g, fun _ q => absurd q h2, fun _ q => absurd q h2⟩
theorem f3_3 (h : c1) (h2 : c2) (h3 : ¬ c3) (g : N v (th s 3)) : f3 c1 c2 c3 v N s F := ⟨fun q => absurd h q, fun _ q => absurd h2 q, fun _ _ _ => g, fun _ _ q => absurd q h3⟩
theorem f3_0 (h : c1) (h2 : c2) (h3 : c3) (g : F) : f3 c1 c2 c3 v N s F := ⟨fun q => absurd h q, fun _ q => absurd h2 q, fun _ _ q => absurd h3 q, fun _ _ _ => g⟩
end Fs

