/-! the law's loop -/
abbrev Cas : Type := Nat → LC → List AV → Sg → Prop
def lkp : List (Nat × Cas) → Nat → Option Cas
  | [], _ => none
  | (q, P) :: r, pc => bif Nat.beq q pc then some P else lkp r pc
theorem lkp_mem {t : List (Nat × Cas)} {pc : Nat} {f : Cas} (h : lkp t pc = some f) : (pc, f) ∈ t := by
  induction t with
  | nil => cases h
  | cons q r ih =>
    obtain ⟨q1, q2⟩ := q
    unfold lkp at h
    cases hq : Nat.beq q1 pc with
    | true =>
      rw [hq, cond_true] at h
      cases h
      rw [Nat.eq_of_beq_eq_true hq]
      exact List.mem_cons_self
    | false =>
      rw [hq, cond_false] at h
      exact List.mem_cons_of_mem _ (ih h)
/-- a call's case begins -/
def AC (L n u : Nat) (s0 : Sg) : Cas := fun u2 Lc st s => u2 = u ∧ Lc = lp n ∧ st = [] ∧ s = s0 ∧ 5 * n + 4 < L
/-- the law's end -/
def AE (u : Nat) : Cas := fun u2 _ st _ => u2 = u ∧ st = []
def cHl (L n u : Nat) (s0 : Sg) : List (Nat × Cas) := [(2051, AE u), (2045, AC L n u s0), (168, AC L n u s0), (260, AC L n u s0), (328, AC L n u s0), (396, AC L n u s0), (432, AC L n u s0), (495, AC L n u s0), (551, AC L n u s0), (611, AC L n u s0), (671, AC L n u s0), (734, AC L n u s0), (826, AC L n u s0), (862, AC L n u s0), (898, AC L n u s0), (954, AC L n u s0), (1062, AC L n u s0), (1130, AC L n u s0), (1210, AC L n u s0), (1266, AC L n u s0), (1346, AC L n u s0), (1402, AC L n u s0), (1438, AC L n u s0), (1494, AC L n u s0), (1562, AC L n u s0), (1630, AC L n u s0), (1686, AC L n u s0), (1754, AC L n u s0), (1822, AC L n u s0), (1897, AC L n u s0), (1965, AC L n u s0)]
def cB (n u : Nat) (s0 : Sg) : List (Nat × Cas) := [(23, fun u2 Lc st s => u2 = u ∧ Lc = lp (n + 1) ∧ st = [] ∧ s = s0)]
section Hd
variable {L n u : Nat} {xs : Nat → Int32} {s : Sg}
set_option maxRecDepth 20000 in
set_option maxHeartbeats 2000000 in
theorem head_wp (hL : L ≤ 2560) (hn : n ≤ 513) : wp (lk (tab_lawH L xs)) (lkp (cHl L n u s)) 150256 (fun _ _ => False) (fun _ _ => False) 20 23 u (lp n) [] s := by
  have e : (nI L - 5).toInt = (L : Int) - 5 := pk_sub_toInt (a := L) (b := 5) (by omega) (by decide)
  have e2 : (nI (5 * n)).toInt = ((5 * n : Nat) : Int) := nI_toInt (by omega)
  refine ⟨fun _ => ⟨rfl, rfl⟩, fun q => ?_⟩
  have hlt : 5 * n + 4 < L := by
    have q' : ¬ nI L - 5 < nI (5 * n) := q
    rw [Int32.lt_iff_toInt_lt, e, e2] at q'
    omega
  refine ⟨nIb (by omega) (by omega), ?_⟩
  exact ⟨fun _ => ⟨rfl, rfl, rfl, rfl, hlt⟩, fun _ => ⟨fun _ => ⟨rfl, rfl, rfl, rfl, hlt⟩, fun _ => ⟨fun _ => ⟨rfl, rfl, rfl, rfl, hlt⟩, fun _ => ⟨fun _ => ⟨rfl, rfl, rfl, rfl, hlt⟩, fun _ => ⟨fun _ => ⟨rfl, rfl, rfl, rfl, hlt⟩, fun _ => ⟨fun _ => ⟨rfl, rfl, rfl, rfl, hlt⟩, fun _ => ⟨fun _ => ⟨rfl, rfl, rfl, rfl, hlt⟩, fun _ => ⟨fun _ => ⟨rfl, rfl, rfl, rfl, hlt⟩, fun _ => ⟨fun _ => ⟨rfl, rfl, rfl, rfl, hlt⟩, fun _ => ⟨fun _ => ⟨rfl, rfl, rfl, rfl, hlt⟩, fun _ => ⟨fun _ => ⟨rfl, rfl, rfl, rfl, hlt⟩, fun _ => ⟨fun _ => ⟨rfl, rfl, rfl, rfl, hlt⟩, fun _ => ⟨fun _ => ⟨rfl, rfl, rfl, rfl, hlt⟩, fun _ => ⟨fun _ => ⟨rfl, rfl, rfl, rfl, hlt⟩, fun _ => ⟨fun _ => ⟨rfl, rfl, rfl, rfl, hlt⟩, fun _ => ⟨fun _ => ⟨rfl, rfl, rfl, rfl, hlt⟩, fun _ => ⟨fun _ => ⟨rfl, rfl, rfl, rfl, hlt⟩, fun _ => ⟨fun _ => ⟨rfl, rfl, rfl, rfl, hlt⟩, fun _ => ⟨fun _ => ⟨rfl, rfl, rfl, rfl, hlt⟩, fun _ => ⟨fun _ => ⟨rfl, rfl, rfl, rfl, hlt⟩, fun _ => ⟨fun _ => ⟨rfl, rfl, rfl, rfl, hlt⟩, fun _ => ⟨fun _ => ⟨rfl, rfl, rfl, rfl, hlt⟩, fun _ => ⟨fun _ => ⟨rfl, rfl, rfl, rfl, hlt⟩, fun _ => ⟨fun _ => ⟨rfl, rfl, rfl, rfl, hlt⟩, fun _ => ⟨fun _ => ⟨rfl, rfl, rfl, rfl, hlt⟩, fun _ => ⟨fun _ => ⟨rfl, rfl, rfl, rfl, hlt⟩, fun _ => ⟨fun _ => ⟨rfl, rfl, rfl, rfl, hlt⟩, fun _ => ⟨fun _ => ⟨rfl, rfl, rfl, rfl, hlt⟩, fun _ => ⟨fun _ => ⟨rfl, rfl, rfl, rfl, hlt⟩, fun _ => ⟨rfl, rfl, rfl, rfl, hlt⟩⟩⟩⟩⟩⟩⟩⟩⟩⟩⟩⟩⟩⟩⟩⟩⟩⟩⟩⟩⟩⟩⟩⟩⟩⟩⟩⟩⟩⟩
theorem end_wp {s : Sg} : wp (lk (tab_lawE L xs)) (lkp (cB n u s)) 150256 (fun _ _ => False) (fun _ _ => False) 10 2045 u (lp n) [] s := by
  have e : nI (5 * n) + 5 = nI (5 * (n + 1)) := by
    show nI (5 * n) + nI 5 = _
    rw [nI_add]
    rfl
  refine ⟨rfl, ?_, rfl, rfl⟩
  show [(0, .inr (74, 0)), (1, .inr (1, 0)), (2, .inr (20, 0)), (3, .inr (60, 0)), (4, .inl (nI (5 * n) + 5))] = lp (n + 1)
  rw [e]
  rfl
theorem ret_wp {Lc : LC} {s : Sg} (hu : u ≤ 150256) : wp (lk (tab_lawE L xs)) (fun _ => none) 150256 (fun _ _ => False) (fun _ _ => False) 10 2051 u Lc [] s := ⟨hu, rfl⟩
end Hd
section Lp
variable {g : GPm} {p : Program} {l : Launch} {e : Env} {R : Room} {s0 : State} {m : MethodId} {args : Array Value} {below : List Frame} {meth : Method} {c : Code} {w0 : Cond} {ad : Nat → Nat → Nat} {K : List (Nat × Nat)} {Q : State → Prop} {L n : Nat} {xs : Nat → Int32}
theorem loop_step (hC : CX g p l R s0 m args meth c RL cL_law 7 15 150256 ret w0) (hX : LX L xs g s0) (hR : LR g cL_law 150256 p l e R s0 m args below meth c Q) (hL : L ≤ 2560) (hn : n ≤ 513) {u : Nat} (hu : u ≤ 400 + 18 * n) {s1 : Sg} (h : Rl (10000 * n) s1)
    (next : 5 * n + 4 < L → ∀ u2 s2, u2 ≤ 400 + 18 * (n + 1) → Rl (10000 * (n + 1)) s2 → GAW g p l e R s0 m args below meth c 7 ad K Q 23 u2 (lp (n + 1)) [] s2) : GAW g p l e R s0 m args below meth c 7 ad K Q 23 u (lp n) [] s1 := by
  have hend : 5 * n + 4 < L → ∀ u2 L2 st s2, LEn n u2 L2 st s2 → GAW g p l e R s0 m args below meth c 7 ad K Q 2045 u2 L2 st s2 := by
    rintro hlt u2 L2 st s2 ⟨k1, k2, rfl, k4⟩ ad' K' hE
    refine AW_take (j := 5) ?_
    rw [k2]
    refine lwp_ok tok_lawE hC hX hR (C := lkp (cB n u2 s2)) (fun pc P hP => ?_) 10 2045 u2 (lp n) [] s2 end_wp ad' K' hE
    have all : ∀ q ∈ cB n u2 s2, ∀ u3 L3 st3 s3, q.2 u3 L3 st3 s3 → GAW g p l e R s0 m args below meth c 7 ad K Q q.1 u3 L3 st3 s3 := ac (by
      rintro u3 L3 st3 s3 ⟨rfl, rfl, rfl, rfl⟩
      exact next hlt _ _ k1 k4) an
    exact all (pc, P) (lkp_mem hP)
  have hcE : 5 * n + 4 < L → ∀ pc P, cE n pc = some P → ∀ u2 L2 st s2, P u2 L2 st s2 → GAW g p l e R s0 m args below meth c 7 ad K Q pc u2 L2 st s2 := by
    intro hlt pc P hP
    unfold cE at hP
    cases hq2 : Nat.beq pc 2045 with
    | false => rw [hq2] at hP; cases hP
    | true =>
      rw [hq2] at hP
      cases hP
      rw [Nat.eq_of_beq_eq_true hq2]
      exact hend hlt
  have all : ∀ q ∈ cHl L n u s1, ∀ u2 L2 st s2, q.2 u2 L2 st s2 → GAW g p l e R s0 m args below meth c 7 ad K Q q.1 u2 L2 st s2 := ac (by
    rintro u2 L2 st s2 ⟨rfl, rfl⟩
    exact lwp_ok tok_lawE hC hX hR (C := fun _ => none) (fun _ _ h => nomatch h) 10 2051 _ L2 [] s2 (ret_wp (by omega))) (ac (by
    rintro u2 L2 st s2 ⟨rfl, rfl, rfl, rfl, hlt⟩
    exact hend hlt _ _ _ _ ⟨by omega, rfl, rfl, Rl_mono (by omega) h⟩) (ac (by
    rintro u2 L2 st s2 ⟨rfl, rfl, rfl, rfl, hlt⟩
    exact lwp_ok tok_lawC0 hC hX hR (hcE hlt) 90 168 _ _ [] _ (case_0 hL hlt hu h)) (ac (by
    rintro u2 L2 st s2 ⟨rfl, rfl, rfl, rfl, hlt⟩
    exact lwp_ok tok_lawC1 hC hX hR (hcE hlt) 90 260 _ _ [] _ (case_1 hL hlt hu h)) (ac (by
    rintro u2 L2 st s2 ⟨rfl, rfl, rfl, rfl, hlt⟩
    exact lwp_ok tok_lawC2 hC hX hR (hcE hlt) 90 328 _ _ [] _ (case_2 hL hlt hu h)) (ac (by
    rintro u2 L2 st s2 ⟨rfl, rfl, rfl, rfl, hlt⟩
    exact lwp_ok tok_lawC3 hC hX hR (hcE hlt) 90 396 _ _ [] _ (case_3 hL hlt hu h)) (ac (by
    rintro u2 L2 st s2 ⟨rfl, rfl, rfl, rfl, hlt⟩
    exact lwp_ok tok_lawC4 hC hX hR (hcE hlt) 90 432 _ _ [] _ (case_4 hL hlt hu h)) (ac (by
    rintro u2 L2 st s2 ⟨rfl, rfl, rfl, rfl, hlt⟩
    exact lwp_ok tok_lawC5 hC hX hR (hcE hlt) 90 495 _ _ [] _ (case_5 hL hlt hu h)) (ac (by
    rintro u2 L2 st s2 ⟨rfl, rfl, rfl, rfl, hlt⟩
    exact lwp_ok tok_lawC6 hC hX hR (hcE hlt) 90 551 _ _ [] _ (case_6 hL hlt hu h)) (ac (by
    rintro u2 L2 st s2 ⟨rfl, rfl, rfl, rfl, hlt⟩
    exact lwp_ok tok_lawC7 hC hX hR (hcE hlt) 90 611 _ _ [] _ (case_7 hL hlt hu h)) (ac (by
    rintro u2 L2 st s2 ⟨rfl, rfl, rfl, rfl, hlt⟩
    exact lwp_ok tok_lawC8 hC hX hR (hcE hlt) 90 671 _ _ [] _ (case_8 hL hlt hu h)) (ac (by
    rintro u2 L2 st s2 ⟨rfl, rfl, rfl, rfl, hlt⟩
    exact lwp_ok tok_lawC9 hC hX hR (hcE hlt) 90 734 _ _ [] _ (case_9 hL hlt hu h)) (ac (by
    rintro u2 L2 st s2 ⟨rfl, rfl, rfl, rfl, hlt⟩
    exact lwp_ok tok_lawC10 hC hX hR (hcE hlt) 90 826 _ _ [] _ (case_10 hL hlt hu h)) (ac (by
    rintro u2 L2 st s2 ⟨rfl, rfl, rfl, rfl, hlt⟩
    exact lwp_ok tok_lawC11 hC hX hR (hcE hlt) 90 862 _ _ [] _ (case_11 hL hlt hu h)) (ac (by
    rintro u2 L2 st s2 ⟨rfl, rfl, rfl, rfl, hlt⟩
    exact lwp_ok tok_lawC12 hC hX hR (hcE hlt) 90 898 _ _ [] _ (case_12 hL hlt hu h)) (ac (by
    rintro u2 L2 st s2 ⟨rfl, rfl, rfl, rfl, hlt⟩
    exact lwp_ok tok_lawC13 hC hX hR (hcE hlt) 90 954 _ _ [] _ (case_13 hL hlt hu h)) (ac (by
    rintro u2 L2 st s2 ⟨rfl, rfl, rfl, rfl, hlt⟩
    exact lwp_ok tok_lawC14 hC hX hR (hcE hlt) 90 1062 _ _ [] _ (case_14 hL hlt hu h)) (ac (by
    rintro u2 L2 st s2 ⟨rfl, rfl, rfl, rfl, hlt⟩
    exact lwp_ok tok_lawC15 hC hX hR (hcE hlt) 90 1130 _ _ [] _ (case_15 hL hlt hu h)) (ac (by
    rintro u2 L2 st s2 ⟨rfl, rfl, rfl, rfl, hlt⟩
    exact lwp_ok tok_lawC16 hC hX hR (hcE hlt) 90 1210 _ _ [] _ (case_16 hL hlt hu h)) (ac (by
    rintro u2 L2 st s2 ⟨rfl, rfl, rfl, rfl, hlt⟩
    exact lwp_ok tok_lawC17 hC hX hR (hcE hlt) 90 1266 _ _ [] _ (case_17 hL hlt hu h)) (ac (by
    rintro u2 L2 st s2 ⟨rfl, rfl, rfl, rfl, hlt⟩
    exact lwp_ok tok_lawC18 hC hX hR (hcE hlt) 90 1346 _ _ [] _ (case_18 hL hlt hu h)) (ac (by
    rintro u2 L2 st s2 ⟨rfl, rfl, rfl, rfl, hlt⟩
    exact lwp_ok tok_lawC19 hC hX hR (hcE hlt) 90 1402 _ _ [] _ (case_19 hL hlt hu h)) (ac (by
    rintro u2 L2 st s2 ⟨rfl, rfl, rfl, rfl, hlt⟩
    exact lwp_ok tok_lawC20 hC hX hR (hcE hlt) 90 1438 _ _ [] _ (case_20 hL hlt hu h)) (ac (by
    rintro u2 L2 st s2 ⟨rfl, rfl, rfl, rfl, hlt⟩
    exact lwp_ok tok_lawC21 hC hX hR (hcE hlt) 90 1494 _ _ [] _ (case_21 hL hlt hu h)) (ac (by
    rintro u2 L2 st s2 ⟨rfl, rfl, rfl, rfl, hlt⟩
    exact lwp_ok tok_lawC22 hC hX hR (hcE hlt) 90 1562 _ _ [] _ (case_22 hL hlt hu h)) (ac (by
    rintro u2 L2 st s2 ⟨rfl, rfl, rfl, rfl, hlt⟩
    exact lwp_ok tok_lawC23 hC hX hR (hcE hlt) 90 1630 _ _ [] _ (case_23 hL hlt hu h)) (ac (by
    rintro u2 L2 st s2 ⟨rfl, rfl, rfl, rfl, hlt⟩
    exact lwp_ok tok_lawC24 hC hX hR (hcE hlt) 90 1686 _ _ [] _ (case_24 hL hlt hu h)) (ac (by
    rintro u2 L2 st s2 ⟨rfl, rfl, rfl, rfl, hlt⟩
    exact lwp_ok tok_lawC25 hC hX hR (hcE hlt) 90 1754 _ _ [] _ (case_25 hL hlt hu h)) (ac (by
    rintro u2 L2 st s2 ⟨rfl, rfl, rfl, rfl, hlt⟩
    exact lwp_ok tok_lawC26 hC hX hR (hcE hlt) 90 1822 _ _ [] _ (case_26 hL hlt hu h)) (ac (by
    rintro u2 L2 st s2 ⟨rfl, rfl, rfl, rfl, hlt⟩
    exact lwp_ok tok_lawC27 hC hX hR (hcE hlt) 90 1897 _ _ [] _ (case_27 hL hlt hu h)) (ac (by
    rintro u2 L2 st s2 ⟨rfl, rfl, rfl, rfl, hlt⟩
    exact lwp_ok tok_lawC28 hC hX hR (hcE hlt) 90 1965 _ _ [] _ (case_28 hL hlt hu h)) (an)))))))))))))))))))))))))))))))
  refine lwp_ok tok_lawH hC hX hR (C := lkp (cHl L n u s1)) (fun pc P hP => all (pc, P) (lkp_mem hP)) 20 23 u (lp n) [] s1 (head_wp hL hn)
theorem loop_ok (hC : CX g p l R s0 m args meth c RL cL_law 7 15 150256 ret w0) (hX : LX L xs g s0) (hR : LR g cL_law 150256 p l e R s0 m args below meth c Q) (hL : L ≤ 2560) : ∀ k n, n + k = 513 → ∀ u s1, u ≤ 400 + 18 * n → Rl (10000 * n) s1 → GAW g p l e R s0 m args below meth c 7 ad K Q 23 u (lp n) [] s1 := by
  intro k
  induction k with
  | zero =>
    intro n hn u s1 hu h
    exact loop_step hC hX hR hL (by omega) hu h (fun hlt => by omega)
  | succ k ih =>
    intro n hn u s1 hu h
    exact loop_step hC hX hR hL (by omega) hu h (fun _ u2 s2 hu2 h2 => ih (n + 1) (by omega) u2 s2 hu2 h2)
end Lp

