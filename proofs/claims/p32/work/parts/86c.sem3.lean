/-! class and law: what hinders, causes, votes -/
section Sm
variable {t : Nat} {fa mo : Nat → Nat} {T : Nat → Nat → Nat} {s : Sg}
theorem hB_cl {r : Rw} (h : Rg t fa mo T r s) {p q : Nat} (hp : p < s.1 0) (hq : q < s.1 0) : hB (kinV (lnF fa mo p) (lnF fa mo q) p q) ↔ (ilC s (nI p) (nI q) ∨ dgC s (nI p) (nI q) ≤ 4) := by
  rcases kin_cl h hp hq with ⟨e1, e2, e3⟩ | ⟨dg, il, h1, h2, e1, e2, e3⟩
  · rw [e3, e1]
    constructor
    · rintro ⟨z, -⟩
      exact absurd (by decide) z
    · rintro (z | z)
      · exact absurd z e2
      · exact absurd z (by decide)
  · have a1 : ¬ nI (100 * dg + il) < 0 := nI_pos (by omega)
    have a2 : nI (100 * dg + il) < 500 ↔ 100 * dg + il < 500 := nI_ltI (b := 500) (by omega) (by decide)
    have a3 : irm (nI (100 * dg + il)) 100 = nI il := by
      rw [show (100 : Int32) = nI 100 from rfl, irmN (by omega) (by decide) (by decide), show (100 * dg + il) % 100 = il by omega]
    have a4 : nI il = 1 ↔ il = 1 := nI_eq (b := 1) (by omega) (by decide)
    have a5 : nI dg ≤ 4 ↔ dg ≤ 4 := nI_leI (b := 4) (by omega) (by decide)
    unfold hB
    rw [e3, e1, a2, a3, a4, a5, e2]
    constructor
    · rintro ⟨-, z⟩
      omega
    · intro z
      exact ⟨a1, by omega⟩
theorem hin_cl (h : Rg t fa mo T (rows s) s) (ht : t ≤ 64) {p q : Nat} (hp : p < s.1 0) (hq : q < s.1 0) : ∃ a b c : Nat, (a < 2 ∧ b < 2 ∧ c < 2) ∧ hinV s (kinV (lnF fa mo p) (lnF fa mo q) p q) p q (s.2.1 30 0 0) = nI (a + 2 * b + 8 * c) ∧ lh3 s (nI p) (nI q) = nI (a + 2 * b + 8 * c) ∧
    (a = 1 ↔ aoy s (nI p) (nI q) < 5760) ∧ (b = 1 ↔ (ilC s (nI p) (nI q) ∨ dgC s (nI p) (nI q) ≤ 4)) ∧ (c = 1 ↔ (¬ s.2.1 12 p 3 = 0 ∨ ¬ s.2.1 12 q 3 = 0)) := by
  have hn := (Rg_n h).1
  have cp : cl (nI p) = p := clN (by omega)
  have cq : cl (nI q) = q := clN (by omega)
  obtain ⟨d, hd, ed1, ed2⟩ := h.1.2.2.2.2.2
  have hA1 : hA s p q (s.2.1 30 0 0) ↔ aoy s (nI p) (nI q) < 5760 := by
    have e := aoy_lt h (c := 5760) ht hp hq (by decide)
    obtain ⟨_, _, _, _, _, -, -, -, b1, -, -⟩ := (h.2.1.1 p hp).2.2
    obtain ⟨_, _, _, _, _, -, -, -, b2, -, -⟩ := (h.2.1.1 q hq).2.2
    have b1' : s.2.1 21 0 p = s.2.1 12 p 0 := b1
    have b2' : s.2.1 21 0 q = s.2.1 12 q 0 := b2
    have ed2' : s.2.1 30 0 0 = nI d := ed2
    refine Iff.trans ?_ e.symm
    unfold hA
    rw [b1', b2', ed1, ed2']
    exact Iff.rfl
  have od : ∀ k, k < s.1 0 → (¬ s.2.1 21 0 (16 + k) < 0 ↔ ¬ s.2.1 12 k 3 = 0) := by
    intro k hk
    obtain ⟨_, _, o, _, _, ⟨-, -, o2, -⟩, ⟨-, -, e3, -⟩, -, -, -, e6⟩ := (h.2.1.1 k hk).2.2
    rw [e3, n0 (by omega)]
    rcases e6 with ⟨rfl, e6⟩ | ⟨rfl, d2, hd2, e6⟩
    · have e6' : s.2.1 21 0 (16 + k) = -1 := e6
      rw [e6']
      exact ⟨fun z => absurd (by decide) z, fun z => absurd rfl z⟩
    · have e6' : s.2.1 21 0 (16 + k) = nI d2 := e6
      rw [e6']
      exact ⟨fun _ => by decide, fun _ => nI_pos (by omega)⟩
  have hC1 : hC9 s p q ↔ (¬ s.2.1 12 p 3 = 0 ∨ ¬ s.2.1 12 q 3 = 0) := by
    unfold hC9
    rw [od p hp, od q hq]
  have hB1 := hB_cl h hp hq
  have hC2 : (¬ s.2.1 12 (cl (nI p)) 3 = 0 ∨ ¬ s.2.1 12 (cl (nI q)) 3 = 0) ↔ (¬ s.2.1 12 p 3 = 0 ∨ ¬ s.2.1 12 q 3 = 0) := by rw [cp, cq]
  unfold hinV lh3 lh2 lh1
  by_cases a : aoy s (nI p) (nI q) < 5760 <;> by_cases b : (ilC s (nI p) (nI q) ∨ dgC s (nI p) (nI q) ≤ 4) <;> by_cases c : (¬ s.2.1 12 p 3 = 0 ∨ ¬ s.2.1 12 q 3 = 0)
  · refine ⟨1, 1, 1, by decide, ?_, ?_, by simp [a], by simp [b], by simp [c]⟩
    · rw [iteP_t (hA1.mpr a), iteP_t (hB1.mpr b), iteP_t (hC1.mpr c)]; rfl
    · rw [iteP_t a, iteP_t b, iteP_t (hC2.mpr c)]; rfl
  · refine ⟨1, 1, 0, by decide, ?_, ?_, by simp [a], by simp [b], by simp [c]⟩
    · rw [iteP_t (hA1.mpr a), iteP_t (hB1.mpr b), iteP_f (fun z => c (hC1.mp z))]; rfl
    · rw [iteP_t a, iteP_t b, iteP_f (fun z => c (hC2.mp z))]; rfl
  · refine ⟨1, 0, 1, by decide, ?_, ?_, by simp [a], by simp [b], by simp [c]⟩
    · rw [iteP_t (hA1.mpr a), iteP_f (fun z => b (hB1.mp z)), iteP_t (hC1.mpr c)]; rfl
    · rw [iteP_t a, iteP_f b, iteP_t (hC2.mpr c)]; rfl
  · refine ⟨1, 0, 0, by decide, ?_, ?_, by simp [a], by simp [b], by simp [c]⟩
    · rw [iteP_t (hA1.mpr a), iteP_f (fun z => b (hB1.mp z)), iteP_f (fun z => c (hC1.mp z))]; rfl
    · rw [iteP_t a, iteP_f b, iteP_f (fun z => c (hC2.mp z))]; rfl
  · refine ⟨0, 1, 1, by decide, ?_, ?_, by simp [a], by simp [b], by simp [c]⟩
    · rw [iteP_f (fun z => a (hA1.mp z)), iteP_t (hB1.mpr b), iteP_t (hC1.mpr c)]; rfl
    · rw [iteP_f a, iteP_t b, iteP_t (hC2.mpr c)]; rfl
  · refine ⟨0, 1, 0, by decide, ?_, ?_, by simp [a], by simp [b], by simp [c]⟩
    · rw [iteP_f (fun z => a (hA1.mp z)), iteP_t (hB1.mpr b), iteP_f (fun z => c (hC1.mp z))]; rfl
    · rw [iteP_f a, iteP_t b, iteP_f (fun z => c (hC2.mp z))]; rfl
  · refine ⟨0, 0, 1, by decide, ?_, ?_, by simp [a], by simp [b], by simp [c]⟩
    · rw [iteP_f (fun z => a (hA1.mp z)), iteP_f (fun z => b (hB1.mp z)), iteP_t (hC1.mpr c)]; rfl
    · rw [iteP_f a, iteP_f b, iteP_t (hC2.mpr c)]; rfl
  · refine ⟨0, 0, 0, by decide, ?_, ?_, by simp [a], by simp [b], by simp [c]⟩
    · rw [iteP_f (fun z => a (hA1.mp z)), iteP_f (fun z => b (hB1.mp z)), iteP_f (fun z => c (hC1.mp z))]; rfl
    · rw [iteP_f a, iteP_f b, iteP_f (fun z => c (hC2.mp z))]; rfl
/-- who is bound by a vow, in class and law -/
theorem bo_cl (h : Rg t fa mo T (rows s) s) {k : Nat} (hk : k < s.1 1) (p d : Int32) : (isOfL s k p ∧ bindsL s k d) ↔ boC s k p d := by
  have hn := Rg_n h
  obtain ⟨one, oth, pl, lk, st, la, v1, v2, v3, v4, v5, v6⟩ := h.2.2.1 k hk
  have hv : vR s k one oth pl lk st la := ⟨⟨by omega, by omega, v1.2.2⟩, v3⟩
  have v4' : s.2.1 25 0 k = s.2.1 13 k 3 := v4
  have v5' : s.2.1 25 0 (16 + k) = s.2.1 13 k 7 := v5
  unfold isOfL bindsL boC
  rw [vR_one hv, vR_oth hv, vR_st hv, v4', v5', v2.1, v2.2.1, v2.2.2.2.2.1]
  constructor
  · rintro ⟨z1, z2⟩
    exact ⟨z1.imp Eq.symm Eq.symm, z2⟩
  · rintro ⟨z1, z2⟩
    exact ⟨z1.imp Eq.symm Eq.symm, z2⟩
theorem lbC_no {p d : Int32} : ∀ (m i : Nat), i + m < 2 ^ 30 → (lbC s p d m i = -1 ↔ ∀ k, i ≤ k → k < i + m → ¬ boC s k p d)
  | 0, i, _ => ⟨fun _ k h1 h2 => by omega, fun _ => rfl⟩
  | m + 1, i, hb => by
    have ih := lbC_no (p := p) (d := d) m (i + 1) (by omega)
    rw [lbC]
    by_cases c : boC s i p d
    · rw [iteP_t c]
      constructor
      · intro z
        refine absurd (congrArg Int32.toInt z) ?_
        rw [nI_toInt (by omega), show (-1 : Int32).toInt = -1 from rfl]
        omega
      · intro z
        exact absurd c (z i (Nat.le_refl _) (by omega))
    · rw [iteP_f c, ih]
      constructor
      · intro z k h1 h2
        by_cases e : k = i
        · rw [e]; exact c
        · exact z k (by omega) (by omega)
      · intro z k h1 h2
        exact z k (by omega) (by omega)
theorem hn_cl (h : Rg t fa mo T (rows s) s) {i : Nat} (hi : i < s.1 1) : hnL s i = hnC s i := by
  have hn := Rg_n h
  obtain ⟨one, oth, pl, lk, st, la, v1, v2, v3, v4, v5, v6⟩ := h.2.2.1 i hi
  have hv : vR s i one oth pl lk st la := ⟨⟨by omega, by omega, v1.2.2⟩, v3⟩
  have v4' : s.2.1 25 0 i = s.2.1 13 i 3 := v4
  have e : (∃ k, k < i ∧ bndL s i k) ↔ hnb s i := by
    unfold hnb
    rw [lbC_no i 0 (by omega), lbC_no i 0 (by omega)]
    constructor
    · rintro ⟨k, hk, z1, z2⟩
      rw [v4', vR_one hv, vR_oth hv] at *
      rcases z1 with z1 | z1
      · refine Or.inl fun w => w k (Nat.zero_le _) (by omega) ?_
        rw [v2.1]
        exact (bo_cl h (by omega) _ _).mp ⟨z1, z2⟩
      · refine Or.inr fun w => w k (Nat.zero_le _) (by omega) ?_
        rw [v2.2.1]
        exact (bo_cl h (by omega) _ _).mp ⟨z1, z2⟩
    · intro z
      refine Classical.byContradiction fun hc => ?_
      refine z.elim (fun w => w fun k _ hk hb => hc ⟨k, by omega, ?_⟩) (fun w => w fun k _ hk hb => hc ⟨k, by omega, ?_⟩)
      · have z2 := (bo_cl h (by omega) _ _).mpr hb
        unfold bndL
        rw [v4', vR_one hv]
        rw [v2.1] at z2
        exact ⟨Or.inl z2.1, z2.2⟩
      · have z2 := (bo_cl h (by omega) _ _).mpr hb
        unfold bndL
        rw [v4', vR_oth hv]
        rw [v2.2.1] at z2
        exact ⟨Or.inr z2.1, z2.2⟩
  unfold hnL hnC
  rw [vR_la hv, v2.2.2.2.2.2]
  by_cases c : hnb s i
  · rw [iteP_t (e.mpr c), iteP_t c]
  · rw [iteP_f (fun z => c (e.mp z)), iteP_f c]
/-- causes that are not over -/
theorem qu_cl (h : Rg t fa mo T (rows s) s) {v : Nat} {but : Int32} (hv : v < 16) (hb : but = -1 ∨ ∃ i, i < s.1 2 ∧ but = nI i ∧ s.2.1 14 i 2 = 3) : (∀ j, j < s.1 2 → quP s (nI v) but j) ↔ ¬ inct s (nI v) := by
  have hn := Rg_n h
  have key : ∀ j, j < s.1 2 → (quP s (nI v) but j ↔ ¬ (s.2.1 14 j 0 = nI v ∧ ¬ (s.2.1 14 j 2 = 2 ∨ s.2.1 14 j 2 = 3))) := by
    intro j hj
    obtain ⟨vw, db, st, ins, _, _, _, _, _, _, c1, -, c3, c4, -⟩ := h.2.2.2.1.1 j hj
    have hc : cR s j vw db st ins := ⟨⟨by omega, c1.2.2.1, c1.2.2.2.1, by omega⟩, c4⟩
    have g1 : (1 : Int32) < nI st ↔ 1 < st := nI_ltI (a := 1) (by decide) (by omega)
    have g2 : nI st = 2 ↔ st = 2 := nI_eq (b := 2) (by omega) (by decide)
    have g3 : nI st = 3 ↔ st = 3 := nI_eq (b := 3) (by omega) (by decide)
    unfold quP
    rw [cR_vw hc, cR_st hc, c3.1, c3.2.2.1, g1, g2, g3]
    constructor
    · rintro (z | z | z)
      · rcases hb with rfl | ⟨i, hi, rfl, hi3⟩
        · refine absurd (congrArg Int32.toInt z) ?_
          rw [nI_toInt (by omega), show (-1 : Int32).toInt = -1 from rfl]
          omega
        · have e : j = i := (nI_eq (by omega) (by omega)).mp z
          subst e
          rw [c3.2.2.1, g3] at hi3
          exact fun w => w.2 (Or.inr hi3)
      · exact fun w => z w.1
      · exact fun w => w.2 (by omega)
    · intro z
      by_cases e : nI vw = nI v
      · refine Or.inr (Or.inr ?_)
        have : st = 2 ∨ st = 3 := Classical.byContradiction fun w => z ⟨e, w⟩
        omega
      · exact Or.inr (Or.inl e)
  constructor
  · rintro z ⟨c, hc, w⟩
    exact (key c hc).mp (z c hc) w
  · intro z j hj
    exact (key j hj).mpr fun w => z ⟨j, hj, w⟩
end Sm
theorem shl_and {k db : Nat} (hk : k < 7) (hd : db < 128) : (1 : Int32) <<< (nI k &&& 31) &&& nI db = if db / 2 ^ k % 2 = 1 then nI (2 ^ k) else 0 := by
  have h : ∀ k, k < 7 → ∀ d, d < 128 → ((1 : Int32) <<< (nI k &&& 31) &&& nI d = if d / 2 ^ k % 2 = 1 then nI (2 ^ k) else 0) := by decide +kernel
  exact h k hk db hd
theorem and_or_d (a b c : Int32) : (a ||| b) &&& c = (a &&& c) ||| (b &&& c) := by
  apply Int32.toBitVec_inj.mp
  show (a.toBitVec ||| b.toBitVec) &&& c.toBitVec = (a.toBitVec &&& c.toBitVec) ||| (b.toBitVec &&& c.toBitVec)
  ext i hi
  simp only [BitVec.getElem_and, BitVec.getElem_or]
  exact Bool.and_or_distrib_right _ _ _
theorem pr_cl {w w2 : Nat → Int32} {db : Nat} (hd : db < 128) : ∀ k, k ≤ 7 → (∀ j, j < k → w j = w2 j) → pgR w k &&& nI db = prL w2 db k
  | 0, _, _ => by
    show (0 : Int32) &&& nI db = 0
    exact Int32.zero_and
  | k + 1, hk, hw => by
    have ih := pr_cl (w := w) (w2 := w2) hd k (by omega) (fun j hj => hw j (by omega))
    have e := hw k (by omega)
    rw [pgR, prL, e]
    by_cases c : w2 k < 6
    · have c2 : ¬ (5 : Int32) < w2 k := by
        rw [Int32.lt_iff_toInt_lt] at c ⊢
        have : (6 : Int32).toInt = 6 := rfl
        have : (5 : Int32).toInt = 5 := rfl
        omega
      rw [if_pos c, if_neg (fun z => c2 z.1), ih]
      exact (Int32.or_zero).symm
    · have c2 : (5 : Int32) < w2 k := by
        rw [Int32.lt_iff_toInt_lt] at c ⊢
        have : (6 : Int32).toInt = 6 := rfl
        have : (5 : Int32).toInt = 5 := rfl
        omega
      rw [if_neg c, and_or_d, ih, shl_and (by omega) hd]
      by_cases b : db / 2 ^ k % 2 = 1
      · rw [if_pos b, if_pos ⟨c2, b⟩]
      · rw [if_neg b, if_neg (fun z => b z.2)]
theorem bitI {x i : Nat} : x / 2 ^ i % 2 = 1 ↔ x.testBit i = true := by
  rw [Nat.testBit_eq_decide_div_mod_eq, decide_eq_true_eq]
theorem majL_b {x y z : Nat} : ∀ k i, (majL x y z k).testBit i = (decide (i < k) && decide (1 < x / 2 ^ i % 2 + y / 2 ^ i % 2 + z / 2 ^ i % 2))
  | 0, i => by simp [majL]
  | k + 1, i => by
    rw [majL, Nat.testBit_or, majL_b k i]
    by_cases c : 1 < x / 2 ^ k % 2 + y / 2 ^ k % 2 + z / 2 ^ k % 2
    · rw [if_pos c, Nat.testBit_two_pow]
      by_cases e : k = i
      · subst e
        simp [c]
      · have : (i < k + 1) ↔ i < k := by omega
        simp [e, this]
    · rw [if_neg c]
      by_cases e : k = i
      · subst e
        simp [c]
      · have : (i < k + 1) ↔ i < k := by omega
        simp [this]
theorem maj_cl {a b d : Nat} (ha : a < 128) (hb : b < 128) (hd : d < 128) : maj3 (nI a) (nI b) (nI d) = nI (majL a b d 7) := by
  have l1 : (a &&& b) < 128 := Nat.lt_of_le_of_lt Nat.and_le_left ha
  have l2 : (a &&& d) < 128 := Nat.lt_of_le_of_lt Nat.and_le_left ha
  have l3 : (b &&& d) < 128 := Nat.lt_of_le_of_lt Nat.and_le_left hb
  have l4 : ((a &&& b) ||| (a &&& d)) < 2 ^ 7 := Nat.or_lt_two_pow (n := 7) l1 l2
  unfold maj3
  rw [andN (by omega) (by omega), andN (by omega) (by omega), andN (by omega) (by omega), orN (by omega) (by omega), orN (by omega) (by omega)]
  congr 1
  refine Nat.eq_of_testBit_eq fun i => ?_
  rw [majL_b, Nat.testBit_or, Nat.testBit_or, Nat.testBit_and, Nat.testBit_and, Nat.testBit_and]
  by_cases hi : i < 7
  · have ea : (a.testBit i = true ↔ a / 2 ^ i % 2 = 1) := bitI.symm
    have eb : (b.testBit i = true ↔ b / 2 ^ i % 2 = 1) := bitI.symm
    have ed : (d.testBit i = true ↔ d / 2 ^ i % 2 = 1) := bitI.symm
    have m1 : a / 2 ^ i % 2 = 0 ∨ a / 2 ^ i % 2 = 1 := by omega
    have m2 : b / 2 ^ i % 2 = 0 ∨ b / 2 ^ i % 2 = 1 := by omega
    have m3 : d / 2 ^ i % 2 = 0 ∨ d / 2 ^ i % 2 = 1 := by omega
    rcases m1 with m1 | m1 <;> rcases m2 with m2 | m2 <;> rcases m3 with m3 | m3 <;> simp [m1, m2, m3, hi] at ea eb ed ⊢ <;> simp [ea, eb, ed]
  · have o : ∀ x : Nat, x < 128 → x.testBit i = false := fun x hx => Nat.testBit_lt_two_pow (Nat.lt_of_lt_of_le hx (show 2 ^ 7 ≤ 2 ^ i from Nat.pow_le_pow_right (by decide) (by omega)))
    rw [o a ha, o b hb, o d hd]
    simp [hi]
theorem and_ne {x y : Nat} (hx : x < 128) : ¬ x &&& y = 0 ↔ ∃ i, i < 7 ∧ x / 2 ^ i % 2 = 1 ∧ y / 2 ^ i % 2 = 1 := by
  constructor
  · intro h
    refine Classical.byContradiction fun hc => h ?_
    refine Nat.eq_of_testBit_eq fun i => ?_
    rw [Nat.testBit_and, Nat.zero_testBit]
    by_cases hi : i < 7
    · refine Bool.eq_false_iff.mpr fun w => ?_
      rw [Bool.and_eq_true] at w
      exact hc ⟨i, hi, bitI.mpr w.1, bitI.mpr w.2⟩
    · have : x.testBit i = false := Nat.testBit_lt_two_pow (Nat.lt_of_lt_of_le hx (show 2 ^ 7 ≤ 2 ^ i from Nat.pow_le_pow_right (by decide) (by omega)))
      rw [this]
      rfl
  · rintro ⟨i, -, h1, h2⟩ hc
    have : (x &&& y).testBit i = true := by rw [Nat.testBit_and, bitI.mp h1, bitI.mp h2]; rfl
    rw [hc, Nat.zero_testBit] at this
    cases this
theorem and_96 : ∀ x, x < 128 → (¬ x &&& 96 = 0 ↔ (x / 2 ^ 5 % 2 = 1 ∨ x / 2 ^ 6 % 2 = 1)) := by decide +kernel
theorem like_cl {x y : Nat} (hx : x < 128) (hy : y < 128) : likeC (nI x) (nI y) ↔ likeL x y := by
  have lxy : (x &&& y) < 128 := Nat.lt_of_le_of_lt Nat.and_le_left hx
  have lx : (x &&& 96) < 128 := Nat.lt_of_le_of_lt Nat.and_le_left hx
  have ly : (y &&& 96) < 128 := Nat.lt_of_le_of_lt Nat.and_le_left hy
  unfold likeC likeL
  rw [show (96 : Int32) = nI 96 from rfl, andN (by omega) (by omega), andN (by omega) (by decide), andN (by omega) (by decide), n0 (by omega), n0 (by omega), n0 (by omega), n0 (by omega), n0 (by omega), and_ne hx, and_96 x hx, and_96 y hy]
  refine or_congr Iff.rfl ?_
  constructor
  · rintro (⟨i, hi, h1, h2⟩ | ⟨h1, h2⟩)
    · refine ⟨8 * i, by omega, Or.inl (by omega), ?_, ?_⟩
      · rw [show 8 * i / 7 = i by omega]; exact h1
      · rw [show 8 * i % 7 = i by omega]; exact h2
    · rcases h1 with h1 | h1 <;> rcases h2 with h2 | h2
      · exact ⟨40, by decide, Or.inr (by decide), h1, h2⟩
      · exact ⟨41, by decide, Or.inr (by decide), h1, h2⟩
      · exact ⟨47, by decide, Or.inr (by decide), h1, h2⟩
      · exact ⟨48, by decide, Or.inr (by decide), h1, h2⟩
  · rintro ⟨j, hj, h0, h1, h2⟩
    rcases h0 with h0 | ⟨h0, h3⟩
    · rw [← h0] at h2
      exact Or.inl ⟨j / 7, by omega, h1, h2⟩
    · refine Or.inr ⟨?_, ?_⟩
      · have : j / 7 = 5 ∨ j / 7 = 6 := by omega
        rcases this with e | e
        · rw [e] at h1; exact Or.inl h1
        · rw [e] at h1; exact Or.inr h1
      · have : j % 7 = 5 ∨ j % 7 = 6 := by omega
        rcases this with e | e
        · rw [e] at h2; exact Or.inl h2
        · rw [e] at h2; exact Or.inr h2

