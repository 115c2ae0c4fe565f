/-! the law's isVow: a new vow -/
def nxt (c k d : Nat) : Nat := if c / k % 2 = 1 ∧ d = 1 then c - k else c
theorem nxt_lt {c k d : Nat} (h : c < 16) : nxt c k d < 16 := by
  unfold nxt
  split <;> omega
theorem nxt_all : ∀ a, a < 2 → ∀ b, b < 2 → ∀ c, c < 2 → ∀ x, x < 2 → ∀ y, y < 2 → ∀ z, z < 2 → nxt (nxt (nxt (nxt (a + 2 * b + 8 * c) 1 x) 2 y) 4 0) 8 z = a * (1 - x) + 2 * (b * (1 - y)) + 8 * (c * (1 - z)) := by decide +kernel
theorem and_bit : ∀ c, c < 16 → ((nI c &&& nI 1 ≤ 0 ↔ ¬ c / 1 % 2 = 1) ∧ (nI c &&& nI 2 ≤ 0 ↔ ¬ c / 2 % 2 = 1) ∧ (nI c &&& nI 4 ≤ 0 ↔ ¬ c / 4 % 2 = 1) ∧ (nI c &&& nI 8 ≤ 0 ↔ ¬ c / 8 % 2 = 1)) := by decide +kernel
section IsVs3
variable {N : Nt} {X : Xt} {Z : Kt} {s : Sg} {t a b v : Nat} {fa mo : Nat → Nat} {T : Nat → Nat → Nat}
theorem lwV_e {n p q pl lk la dy : Nat} {L : Int32} (hL : L = nI (2048 * lk)) (hn : s.2.1 30 0 2 = nI n) (hn2 : n < 100) (hd : s.2.1 30 0 0 = nI dy) : ∃ s1 s2 s3 : Sg, s1 = stS s 24 0 (s.2.1 30 0 2).toNatClampNeg (nI p + 16 * nI q + 256 * nI pl + L + 16384 * nI la) ∧ s2 = stS s1 25 0 (s1.2.1 30 0 2).toNatClampNeg (s1.2.1 30 0 0) ∧ s3 = stS s2 25 0 (16 + s2.2.1 30 0 2).toNatClampNeg (-1) ∧
    s1.2.1 30 0 2 = nI n ∧ s2.2.1 30 0 2 = nI n ∧ lwV s n p q pl lk la dy = stS s3 30 0 2 (s3.2.1 30 0 2 + 1) := by
  have e1 : nI p + 16 * nI q + 256 * nI pl + L + 16384 * nI la = nI (pkV p q pl lk 0 la) := by
    rw [hL, show (16 : Int32) = nI 16 from rfl, show (256 : Int32) = nI 256 from rfl, show (16384 : Int32) = nI 16384 from rfl, nIm, nIm, nIm, nI_add, nI_add, nI_add, nI_add]
    rfl
  have e2 : (nI n).toNatClampNeg = n := nI_clamp (by omega)
  have e3 : ((16 : Int32) + nI n).toNatClampNeg = 16 + n := by rw [show (16 : Int32) + nI n = nI (16 + n) from nI_add 16 n]; exact nI_clamp (by omega)
  obtain ⟨s1, h1⟩ : ∃ s1, s1 = stS s 24 0 (s.2.1 30 0 2).toNatClampNeg (nI p + 16 * nI q + 256 * nI pl + L + 16384 * nI la) := ⟨_, rfl⟩
  have a1 : s1.2.1 30 0 2 = nI n := by rw [h1, stS_get, if_neg (by omega), hn]
  have a0 : s1.2.1 30 0 0 = nI dy := by rw [h1, stS_get, if_neg (by omega), hd]
  obtain ⟨s2, h2⟩ : ∃ s2, s2 = stS s1 25 0 (s1.2.1 30 0 2).toNatClampNeg (s1.2.1 30 0 0) := ⟨_, rfl⟩
  have a2 : s2.2.1 30 0 2 = nI n := by rw [h2, stS_get, if_neg (by omega), a1]
  obtain ⟨s3, h3⟩ : ∃ s3, s3 = stS s2 25 0 (16 + s2.2.1 30 0 2).toNatClampNeg (-1) := ⟨_, rfl⟩
  have a3 : s3.2.1 30 0 2 = nI n := by rw [h3, stS_get, if_neg (by omega), a2]
  refine ⟨s1, s2, s3, h1, h2, h3, a1, a2, ?_⟩
  rw [a3, nIs, h3, a2, e3, h2, a1, a0, e2, h1, hn, e2, e1]
  rfl
abbrev lVn (a b p o pl wc : Nat) : LC := lV 2 a b ++ [(12, .inl (nI p)), (13, .inl (nI o)), (14, .inl (nI pl)), (15, .inl (nI wc - 1))]
set_option maxRecDepth 100000 in
set_option maxHeartbeats 4000000 in
theorem isV_n534 {p o pl wt la lk dy ho ri od ba li ho2 ri2 od2 ba2 li2 : Nat} {yn yh : Int32} (run : Rn tab_L_isVow 20 N X Z) (h : Rg t fa mo T (rows s) s) (hn16 : s.1 1 < 16) (hp : p < s.1 0) (ho' : o < s.1 0) (hpo : ¬ p = o) (hpl : pl < 8) (hwt : wt < 2) (hP : Pp fa mo s p ho ri od ba li) (hQ : Pp fa mo s o ho2 ri2 od2 ba2 li2)
    (hc : (li = 1 ∧ ba = 0) ∧ li2 = 1 ∧ ba2 = 0) (hyn : Bv yn (wantsF s (nI p) (nI o))) (hyh : Bv yh (hasF s (nI pl) (nI wt))) (hla : la < 16) (hlh : lhC s (nI p) (nI o) = nI la) (hd : s.2.1 1 0 7 = nI dy) (hd0 : s.2.1 30 0 0 = nI dy)
    (hN : ∀ s2, Rl (t + 1) s2 → N (some (aI 1)) s2) : Z 534 2 (lVn a b p o pl (wt + 1) ++ [(16, .inl 1), (17, .inl 1), (18, .inl 1), (19, .inl yn), (20, .inl yh), (21, .inl (nI la)), (22, .inl (nI 16))]) [] s := by
  have hn := Rg_n h
  have g2 : s.2.1 30 0 2 = nI (s.1 1) := h.1.2.2.2.2.1.2.1
  have b2 : Ib 2 4 := nIb (k := 2) (by decide) (by decide)
  have b0 : Ib 0 4 := nIb (k := 0) (by decide) (by decide)
  have bn : Ib (s.2.1 30 0 2) 17 := by rw [g2]; exact nIb (by omega) (by decide)
  have b32 : Ib (nI (s.1 1)) 32 := nIb (by omega) (by decide)
  have b32' : Ib (16 + nI (s.1 1)) 32 := by rw [show (16 : Int32) + nI (s.1 1) = nI (16 + s.1 1) from nI_add 16 _]; exact nIb (by omega) (by decide)
  have ew : nI (wt + 1) - 1 = nI wt := nI_pred wt
  have key : ∀ (lk : Nat) (L : Int32), L = nI (2048 * lk) → ((lk = 1 ∧ (wantsF s (nI p) (nI o) ∧ ¬ hasF s (nI pl) (nI wt))) ∨ (lk = 0 ∧ ¬ (wantsF s (nI p) (nI o) ∧ ¬ hasF s (nI pl) (nI wt)))) →
      Z 572 2 (lVn a b p o pl (wt + 1) ++ [(16, .inl 1), (17, .inl 1), (18, .inl 1), (19, .inl yn), (20, .inl yh), (21, .inl (nI la)), (22, .inl (nI 16))]) [aI L, aI (nI p + 16 * nI o + 256 * nI pl), aI (s.2.1 30 0 2), aR 24 0] s := by
    intro lk L hL hlk
    have g := vow_0 (X := X) h hn16 hp ho' hpo hpl (show wt < 6 by omega) hP hQ hc hlk hla hlh hd
    obtain ⟨s1, s2, s3, h1, h2, h3, k1, k2, k3⟩ := lwV_e (s := s) (p := p) (q := o) (pl := pl) (la := la) hL g2 (by omega) hd0
    rw [k3, ← ew] at g
    have bs1 : Ib (s1.2.1 30 0 2) 32 := by rw [k1]; exact b32
    have bs2 : Ib (16 + s2.2.1 30 0 2) 32 := by rw [k2]; exact b32'
    rw [h3] at g
    rw [h2] at g bs2
    rw [h1] at g bs2 bs1
    refine run.go [] 120 ?_
    repeat' (first | apply And.intro | (intro q; exact absurd q (by decide)) | (intro q; exact absurd (by decide) q) | (intro q; exact absurd rfl q) | intro _)
    all_goals first | (exact b2) | (exact b0) | (exact bn) | (exact bs1) | (exact bs2) | (exact trivial) | (with_reducible exact Nat.le_refl _) | decide | (exact (rfl : (0 : Nat) = 0)) | (exact Nat.le_of_ble_eq_true rfl) | ((with_reducible show False); contradiction) | skip
    refine ⟨_, g, ?_⟩
    rintro r s4 ⟨rfl, q2, q3⟩
    have e : nI (s.1 1) = s4.2.1 30 0 2 - 1 := by rw [q3, nI_pred]
    repeat' (first | apply And.intro | (intro q; exact absurd q (by decide)) | (intro q; exact absurd (by decide) q) | (intro q; exact absurd rfl q) | (intro q; exact absurd q e) | (intro q; exact absurd e q) | intro _)
    all_goals first | (exact b2) | (exact trivial) | (with_reducible exact Nat.le_refl _) | decide | (exact (rfl : (0 : Nat) = 0)) | (exact Nat.le_of_ble_eq_true rfl) | ((with_reducible show False); contradiction) | (exact hN s4 q2)
  rcases hyn with ⟨rfl, hyn⟩ | ⟨rfl, hyn⟩
  · rcases hyh with ⟨rfl, hyh⟩ | ⟨rfl, hyh⟩
    · have j := key 0 0 (by decide) (Or.inr ⟨rfl, fun w => w.2 hyh⟩)
      refine run.go [572] 60 ?_
      repeat' (first | apply And.intro | (intro q; exact absurd q (by decide)) | (intro q; exact absurd (by decide) q) | (intro q; exact absurd rfl q) | intro _)
      all_goals first | (exact b2) | (exact trivial) | (with_reducible exact Nat.le_refl _) | decide | (exact (rfl : (0 : Nat) = 0)) | (exact Nat.le_of_ble_eq_true rfl) | ((with_reducible show False); contradiction) | (exact j)
    · have j := key 1 2048 (by decide) (Or.inl ⟨rfl, hyn, hyh⟩)
      refine run.go [572] 60 ?_
      repeat' (first | apply And.intro | (intro q; exact absurd q (by decide)) | (intro q; exact absurd (by decide) q) | (intro q; exact absurd rfl q) | intro _)
      all_goals first | (exact b2) | (exact trivial) | (with_reducible exact Nat.le_refl _) | decide | (exact (rfl : (0 : Nat) = 0)) | (exact Nat.le_of_ble_eq_true rfl) | ((with_reducible show False); contradiction) | (exact j)
  · have j := key 0 0 (by decide) (Or.inr ⟨rfl, fun w => hyn w.1⟩)
    refine run.go [572] 60 ?_
    repeat' (first | apply And.intro | (intro q; exact absurd q (by decide)) | (intro q; exact absurd (by decide) q) | (intro q; exact absurd rfl q) | intro _)
    all_goals first | (exact b2) | (exact trivial) | (with_reducible exact Nat.le_refl _) | decide | (exact (rfl : (0 : Nat) = 0)) | (exact Nat.le_of_ble_eq_true rfl) | ((with_reducible show False); contradiction) | (exact j)
set_option maxRecDepth 100000 in
set_option maxHeartbeats 4000000 in
theorem isV_it {p o pl wc c k d k2 : Nat} {yn yh : Int32} (run : Rn tab_L_isVow 20 N X Z) (hc : c < 16) (hk : (k = 1 ∧ k2 = 2) ∨ (k = 2 ∧ k2 = 4) ∨ (k = 4 ∧ k2 = 8) ∨ (k = 8 ∧ k2 = 16)) (i1 : sp_L_isDispensed [aR 23 0, aI (nI p), aI (nI o), aI (nI k)] s (fun r s' => s' = s ∧ ∃ y : Int32, r = some (aI y) ∧ Bv y (d = 1)) X)
    (j : Z 485 2 (lVn a b p o pl wc ++ [(16, .inl 1), (17, .inl 1), (18, .inl 1), (19, .inl yn), (20, .inl yh), (21, .inl (nI (nxt c k d))), (22, .inl (nI k2))]) [] s) : Z 485 2 (lVn a b p o pl wc ++ [(16, .inl 1), (17, .inl 1), (18, .inl 1), (19, .inl yn), (20, .inl yh), (21, .inl (nI c)), (22, .inl (nI k))]) [] s := by
  obtain ⟨f1, f2, f3, f4⟩ := and_bit c hc
  have f : nI c &&& nI k ≤ 0 ↔ ¬ c / k % 2 = 1 := by rcases hk with ⟨rfl, -⟩ | ⟨rfl, -⟩ | ⟨rfl, -⟩ | ⟨rfl, -⟩ <;> assumption
  have h16 : ¬ (16 : Int32) ≤ nI k := nI_ge (b := 16) (by omega) (by decide)
  have e2 : nI k * 2 = nI k2 := by rw [show nI k * 2 = nI (k * 2) from nIm k 2]; congr 1; omega
  have j522 : ∀ x : Int32, nI c - x = nI (nxt c k d) → Z 522 2 (lVn a b p o pl wc ++ [(16, .inl 1), (17, .inl 1), (18, .inl 1), (19, .inl yn), (20, .inl yh), (21, .inl (nI c)), (22, .inl (nI k))]) [aI x, aI (nI c)] s := by
    intro x hx
    rw [← hx, ← e2] at j
    refine run.go [485] 60 ?_
    repeat' (first | apply And.intro | (intro q; exact absurd q (by decide)) | (intro q; exact absurd (by decide) q) | (intro q; exact absurd rfl q) | intro _)
    all_goals first | (exact trivial) | (with_reducible exact Nat.le_refl _) | decide | (exact (rfl : (0 : Nat) = 0)) | (exact Nat.le_of_ble_eq_true rfl) | ((with_reducible show False); contradiction) | (exact j)
  have s0 : nI c - 0 = nI c := Int32.sub_zero _
  by_cases c1 : c / k % 2 = 1
  · have e1 : ¬ _ := fun w => (f.mp w) c1
    refine run.go [522] 60 ?_
    repeat' (first | apply And.intro | (intro q; exact absurd q (by decide)) | (intro q; exact absurd (by decide) q) | (intro q; exact absurd rfl q) | (intro q; exact absurd q h16) | (intro q; exact absurd h16 q) | (intro q; exact absurd q e1) | (intro q; exact absurd e1 q) | intro _)
    all_goals first | (exact trivial) | (with_reducible exact Nat.le_refl _) | decide | (exact (rfl : (0 : Nat) = 0)) | (exact Nat.le_of_ble_eq_true rfl) | ((with_reducible show False); contradiction) | skip
    refine ⟨_, i1, ?_⟩
    rintro r s' ⟨rfl, y, rfl, hy⟩
    rcases hy with ⟨rfl, hy⟩ | ⟨rfl, hy⟩
    · have j := j522 (nI k) (by unfold nxt; rw [if_pos ⟨c1, hy⟩]; exact pk_sub (by rcases hk with ⟨rfl, -⟩ | ⟨rfl, -⟩ | ⟨rfl, -⟩ | ⟨rfl, -⟩ <;> omega))
      repeat' (first | apply And.intro | (intro q; exact absurd q (by decide)) | (intro q; exact absurd (by decide) q) | (intro q; exact absurd rfl q) | intro _)
      all_goals first | (exact trivial) | (with_reducible exact Nat.le_refl _) | decide | (exact (rfl : (0 : Nat) = 0)) | (exact Nat.le_of_ble_eq_true rfl) | ((with_reducible show False); contradiction) | (exact j)
    · have j := j522 0 (by unfold nxt; rw [if_neg (fun w => hy w.2)]; exact s0)
      repeat' (first | apply And.intro | (intro q; exact absurd q (by decide)) | (intro q; exact absurd (by decide) q) | (intro q; exact absurd rfl q) | intro _)
      all_goals first | (exact trivial) | (with_reducible exact Nat.le_refl _) | decide | (exact (rfl : (0 : Nat) = 0)) | (exact Nat.le_of_ble_eq_true rfl) | ((with_reducible show False); contradiction) | (exact j)
  · have e1 := f.mpr c1
    have j := j522 0 (by unfold nxt; rw [if_neg (fun w => c1 w.1)]; exact s0)
    refine run.go [522] 60 ?_
    repeat' (first | apply And.intro | (intro q; exact absurd q (by decide)) | (intro q; exact absurd (by decide) q) | (intro q; exact absurd rfl q) | (intro q; exact absurd q h16) | (intro q; exact absurd h16 q) | (intro q; exact absurd q e1) | (intro q; exact absurd e1 q) | intro _)
    all_goals first | (exact trivial) | (with_reducible exact Nat.le_refl _) | decide | (exact (rfl : (0 : Nat) = 0)) | (exact Nat.le_of_ble_eq_true rfl) | ((with_reducible show False); contradiction) | (exact j)
set_option maxRecDepth 100000 in
set_option maxHeartbeats 4000000 in
theorem isV_n394 {p o pl wt ho ri od ba li ho2 ri2 od2 ba2 li2 : Nat} (run : Rn tab_L_isVow 20 N X Z) (ht : t < 64) (h : Rg t fa mo T (rows s) s) (hn16 : s.1 1 < 16) (hp : p < s.1 0) (ho' : o < s.1 0) (hpo : ¬ p = o) (hpl : pl < 8) (hwt : wt < 2) (hP : Pp fa mo s p ho ri od ba li) (hQ : Pp fa mo s o ho2 ri2 od2 ba2 li2)
    (hc : (li = 1 ∧ ba = 0) ∧ li2 = 1 ∧ ba2 = 0) (hN : ∀ s2, Rl (t + 1) s2 → N (some (aI 1)) s2) : Z 394 0 (lVn a b p o pl (wt + 1) ++ [(16, .inl 1), (17, .inl 1), (18, .inl 1)]) [] s := by
  have hn := Rg_n h
  obtain ⟨dy, hdy, hd7, hd0⟩ := h.1.2.2.2.2.2
  have hd0' : s.2.1 30 0 0 = nI dy := hd0
  have b0 : Ib 0 4 := nIb (k := 0) (by decide) (by decide)
  have b16 : Ib 16 64 := nIb (k := 16) (by decide) (by decide)
  have bp : Ib (nI p) 17 := nIb (by omega) (by decide)
  have bo : Ib (nI o) 17 := nIb (by omega) (by decide)
  have cp : (nI p).toNatClampNeg = p := nI_clamp (by omega)
  have co : (nI o).toNatClampNeg = o := nI_clamp (by omega)
  have ew : nI (wt + 1) - 1 = nI wt := nI_pred wt
  have e8 : (8 : Int32) * (nI (wt + 1) - 1) + nI pl = nI (8 * wt + pl) := by rw [ew, show (8 : Int32) = nI 8 from rfl, nIm, nI_add]
  have c8 : ((8 : Int32) * (nI (wt + 1) - 1) + nI pl).toNatClampNeg = 8 * wt + pl := by rw [e8]; exact nI_clamp (by omega)
  have b8 : Ib ((8 : Int32) * (nI (wt + 1) - 1) + nI pl) 64 := by rw [e8]; exact nIb (by omega) (by decide)
  obtain ⟨f1, E, hE, e16, f2⟩ := h.2.2.2.2.1
  have e16' : s.2.1 22 0 16 = nI E := e16
  have f1' : s.2.1 22 0 (8 * wt + pl) = s.2.1 10 wt pl := f1 wt pl hwt hpl
  have f2' := f2 pl hpl
  obtain ⟨q1, q2⟩ := Rg_fm h hp
  obtain ⟨q3, q4⟩ := Rg_fm h ho'
  have hb1 := hP.1
  have hb2 := hQ.1
  have r1 : irm (s.2.1 20 0 (nI p).toNatClampNeg / 8) 4 = 0 ↔ ri = 0 := by rw [cp, pR_ri (Pp_pR hP (by omega) (by omega))]; exact n0 (by omega)
  have r2 : irm (s.2.1 20 0 (nI o).toNatClampNeg / 8) 4 = 0 ↔ ri2 = 0 := by rw [co, pR_ri (Pp_pR hQ (by omega) (by omega))]; exact n0 (by omega)
  have wf : wantsF s (nI p) (nI o) ↔ (ri = 0 ∨ ri2 = 0) := by
    unfold wantsF
    rw [clN (by omega), clN (by omega), hP.2.1.2.1, hQ.2.1.2.1, n0 (by omega), n0 (by omega)]
  have h1 : s.2.1 30 0 0 < s.2.1 22 0 ((8 : Int32) * (nI (wt + 1) - 1) + nI pl).toNatClampNeg ↔ s.2.1 1 0 7 < s.2.1 10 wt pl := by rw [c8, f1', hd0', hd7]
  have h2 : ((s.2.1 22 0 16 >>> (nI pl &&& 31)) &&& 1 = 1) ↔ ¬ s.2.1 11 0 pl = 0 := by
    rw [e16', bitN (by omega) (by omega), f2', n0 (by omega), show nI (E / 2 ^ pl % 2) = 1 ↔ E / 2 ^ pl % 2 = 1 from nI_eq (b := 1) (by omega) (by decide)]
    omega
  have hf : hasF s (nI pl) (nI wt) ↔ (s.2.1 1 0 7 < s.2.1 10 wt pl ∨ ¬ s.2.1 11 0 pl = 0) := by
    unfold hasF
    rw [clN (by omega), clN (by omega)]
  obtain ⟨nd, hnd2, hnd⟩ := ds_n h
  obtain ⟨a', b', c', x, y, z, ⟨l1, l2, l3⟩, ⟨m1, m2, m3⟩, k1, -, k3, k4, k5, k6⟩ := lh_cl h (by omega) hp ho' hnd hnd2
  have iD : ∀ (k d : Nat), (d = 1 ↔ ∃ j, j < nd ∧ dsP s (nI p) (nI o) (nI k) j) → sp_L_isDispensed [aR 23 0, aI (nI p), aI (nI o), aI (nI k)] s (fun r s' => s' = s ∧ ∃ y : Int32, r = some (aI y) ∧ Bv y (d = 1)) X := fun k d hd => ⟨nd, hnd2, hnd, by rw [← hd]; exact ⟨fun q => ⟨rfl, _, rfl, Bv_t q⟩, fun q => ⟨rfl, _, rfl, Bv_f q⟩⟩⟩
  have hcur : a' + 2 * b' + 8 * c' < 16 := by omega
  have fin := nxt_all a' l1 b' l2 c' l3 x m1 y m2 z m3
  have j467 : ∀ yn yh, Bv yn (wantsF s (nI p) (nI o)) → Bv yh (hasF s (nI pl) (nI wt)) → Z 467 0 (lVn a b p o pl (wt + 1) ++ [(16, .inl 1), (17, .inl 1), (18, .inl 1), (19, .inl yn), (20, .inl yh)]) [] s := by
    intro yn yh hyn hyh
    have j534 := isV_n534 (a := a) (b := b) (la := a' * (1 - x) + 2 * (b' * (1 - y)) + 8 * (c' * (1 - z))) (lk := 0) run h hn16 hp ho' hpo hpl hwt hP hQ hc hyn hyh (by rw [← fin]; exact nxt_lt (nxt_lt (nxt_lt (nxt_lt hcur)))) k6 hd7 hd0' hN
    rw [← fin] at j534
    have j16 : Z 485 2 (lVn a b p o pl (wt + 1) ++ [(16, .inl 1), (17, .inl 1), (18, .inl 1), (19, .inl yn), (20, .inl yh), (21, .inl (nI (nxt (nxt (nxt (nxt (a' + 2 * b' + 8 * c') 1 x) 2 y) 4 0) 8 z))), (22, .inl (nI 16))]) [] s := by
      refine run.go [534] 60 ?_
      repeat' (first | apply And.intro | (intro q; exact absurd q (by decide)) | (intro q; exact absurd (by decide) q) | (intro q; exact absurd rfl q) | intro _)
      all_goals first | (exact trivial) | (with_reducible exact Nat.le_refl _) | decide | (exact (rfl : (0 : Nat) = 0)) | (exact Nat.le_of_ble_eq_true rfl) | ((with_reducible show False); contradiction) | (exact j534)
    have j8 := isV_it (k := 8) run (nxt_lt (nxt_lt (nxt_lt hcur))) (by omega) (iD 8 z k5) j16
    have j4 := isV_it (k := 4) run (nxt_lt (nxt_lt hcur)) (by omega) (iD 4 0 ⟨fun w => absurd w (by decide), fun w => absurd w (ds_4 h hnd hnd2 (by omega) (by omega))⟩) j8
    have j2 := isV_it (k := 2) run (nxt_lt hcur) (by omega) (iD 2 y k4) j4
    have j1 := isV_it (k := 1) run hcur (by omega) (iD 1 x k3) j2
    have i1 : sp_L_hinders [aR 20 0, aR 21 0, aI (nI p), aI (nI o), aI (s.2.1 30 0 0)] s (fun r s' => r = some (aI (nI (a' + 2 * b' + 8 * c'))) ∧ s' = s) X := ⟨s.1 0, p, o, fa, mo, hp, ho', rfl, rfl, Rg_pa h, (Rg_18 h).1, (Rg_18 h).2, by rw [k1], rfl⟩
    rw [show nI 1 = (1 : Int32) from by decide] at j1
    refine run.go [485] 60 ?_
    repeat' (first | apply And.intro | (intro q; exact absurd q (by decide)) | (intro q; exact absurd (by decide) q) | (intro q; exact absurd rfl q) | intro _)
    all_goals first | (exact b0) | (exact trivial) | (with_reducible exact Nat.le_refl _) | decide | (exact (rfl : (0 : Nat) = 0)) | (exact Nat.le_of_ble_eq_true rfl) | ((with_reducible show False); contradiction) | skip
    refine ⟨_, i1, ?_⟩
    rintro r s' ⟨rfl, rfl⟩
    repeat' (first | apply And.intro | (intro q; exact absurd q (by decide)) | (intro q; exact absurd (by decide) q) | (intro q; exact absurd rfl q) | intro _)
    all_goals first | (exact trivial) | (with_reducible exact Nat.le_refl _) | decide | (exact (rfl : (0 : Nat) = 0)) | (exact Nat.le_of_ble_eq_true rfl) | ((with_reducible show False); contradiction) | (exact j1)
  have j430 : ∀ yn, Bv yn (wantsF s (nI p) (nI o)) → Z 430 0 (lVn a b p o pl (wt + 1) ++ [(16, .inl 1), (17, .inl 1), (18, .inl 1), (19, .inl yn)]) [] s := by
    intro yn hyn
    by_cases c1 : s.2.1 1 0 7 < s.2.1 10 wt pl
    · have e1 := h1.mpr c1
      have j := j467 yn 1 hyn (Bv_t (hf.mpr (Or.inl c1)))
      refine run.go [467] 60 ?_
      repeat' (first | apply And.intro | (intro q; exact absurd q (by decide)) | (intro q; exact absurd (by decide) q) | (intro q; exact absurd rfl q) | (intro q; exact absurd q e1) | (intro q; exact absurd e1 q) | intro _)
      all_goals first | (exact b8) | (exact b0) | (exact b16) | (exact trivial) | (with_reducible exact Nat.le_refl _) | decide | (exact (rfl : (0 : Nat) = 0)) | (exact Nat.le_of_ble_eq_true rfl) | ((with_reducible show False); contradiction) | (exact j)
    · have e1 : ¬ _ := fun w => c1 (h1.mp w)
      by_cases c2 : ¬ s.2.1 11 0 pl = 0
      · have e2 := h2.mpr c2
        have j := j467 yn 1 hyn (Bv_t (hf.mpr (Or.inr c2)))
        refine run.go [467] 60 ?_
        repeat' (first | apply And.intro | (intro q; exact absurd q (by decide)) | (intro q; exact absurd (by decide) q) | (intro q; exact absurd rfl q) | (intro q; exact absurd q e1) | (intro q; exact absurd e1 q) | (intro q; exact absurd q e2) | (intro q; exact absurd e2 q) | intro _)
        all_goals first | (exact b8) | (exact b0) | (exact b16) | (exact trivial) | (with_reducible exact Nat.le_refl _) | decide | (exact (rfl : (0 : Nat) = 0)) | (exact Nat.le_of_ble_eq_true rfl) | ((with_reducible show False); contradiction) | (exact j)
      · have e2 : ¬ _ := fun w => c2 (h2.mp w)
        have j := j467 yn 0 hyn (Bv_f (fun w => (hf.mp w).elim c1 c2))
        refine run.go [467] 60 ?_
        repeat' (first | apply And.intro | (intro q; exact absurd q (by decide)) | (intro q; exact absurd (by decide) q) | (intro q; exact absurd rfl q) | (intro q; exact absurd q e1) | (intro q; exact absurd e1 q) | (intro q; exact absurd q e2) | (intro q; exact absurd e2 q) | intro _)
        all_goals first | (exact b8) | (exact b0) | (exact b16) | (exact trivial) | (with_reducible exact Nat.le_refl _) | decide | (exact (rfl : (0 : Nat) = 0)) | (exact Nat.le_of_ble_eq_true rfl) | ((with_reducible show False); contradiction) | (exact j)
  by_cases c1 : ri = 0
  · have e1 := r1.mpr c1
    have j := j430 1 (Bv_t (wf.mpr (Or.inl c1)))
    refine run.go [430] 60 ?_
    repeat' (first | apply And.intro | (intro q; exact absurd q (by decide)) | (intro q; exact absurd (by decide) q) | (intro q; exact absurd rfl q) | (intro q; exact absurd q e1) | (intro q; exact absurd e1 q) | intro _)
    all_goals first | (exact bp) | (exact bo) | (exact trivial) | (with_reducible exact Nat.le_refl _) | decide | (exact (rfl : (0 : Nat) = 0)) | (exact Nat.le_of_ble_eq_true rfl) | ((with_reducible show False); contradiction) | (exact j)
  · have e1 : ¬ _ := fun w => c1 (r1.mp w)
    by_cases c2 : ri2 = 0
    · have e2 := r2.mpr c2
      have j := j430 1 (Bv_t (wf.mpr (Or.inr c2)))
      refine run.go [430] 60 ?_
      repeat' (first | apply And.intro | (intro q; exact absurd q (by decide)) | (intro q; exact absurd (by decide) q) | (intro q; exact absurd rfl q) | (intro q; exact absurd q e1) | (intro q; exact absurd e1 q) | (intro q; exact absurd q e2) | (intro q; exact absurd e2 q) | intro _)
      all_goals first | (exact bp) | (exact bo) | (exact trivial) | (with_reducible exact Nat.le_refl _) | decide | (exact (rfl : (0 : Nat) = 0)) | (exact Nat.le_of_ble_eq_true rfl) | ((with_reducible show False); contradiction) | (exact j)
    · have e2 : ¬ _ := fun w => c2 (r2.mp w)
      have j := j430 0 (Bv_f (fun w => (wf.mp w).elim c1 c2))
      refine run.go [430] 60 ?_
      repeat' (first | apply And.intro | (intro q; exact absurd q (by decide)) | (intro q; exact absurd (by decide) q) | (intro q; exact absurd rfl q) | (intro q; exact absurd q e1) | (intro q; exact absurd e1 q) | (intro q; exact absurd q e2) | (intro q; exact absurd e2 q) | intro _)
      all_goals first | (exact bp) | (exact bo) | (exact trivial) | (with_reducible exact Nat.le_refl _) | decide | (exact (rfl : (0 : Nat) = 0)) | (exact Nat.le_of_ble_eq_true rfl) | ((with_reducible show False); contradiction) | (exact j)
end IsVs3

