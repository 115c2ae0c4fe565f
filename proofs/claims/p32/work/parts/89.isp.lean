/-! the law's isPerson -/
section IsP
variable {s : Sg} {k ho ri ba de fa mo : Nat}
theorem pR_ho (h : pR s k ho ri ba de fa mo) : irm (s.2.1 20 0 k) 8 = nI ho := by
  rw [h.2, show (8 : Int32) = nI 8 from rfl, irmN (pR_lt h) (by decide) (by decide)]
  have := h.1
  unfold pkP
  congr 1
  omega
theorem pR_ri (h : pR s k ho ri ba de fa mo) : irm (s.2.1 20 0 k / 8) 4 = nI ri := by
  have h2 := pR_lt h
  rw [h.2, show (8 : Int32) = nI 8 from rfl, show (4 : Int32) = nI 4 from rfl, divN h2 (by decide) (by decide), irmN (by omega) (by decide) (by decide)]
  have := h.1
  unfold pkP
  congr 1
  omega
theorem pR_ba (h : pR s k ho ri ba de fa mo) : irm (s.2.1 20 0 k / 32) 2 = nI ba := by
  have h2 := pR_lt h
  rw [h.2, show (32 : Int32) = nI 32 from rfl, show (2 : Int32) = nI 2 from rfl, divN h2 (by decide) (by decide), irmN (by omega) (by decide) (by decide)]
  have := h.1
  unfold pkP
  congr 1
  omega
theorem pR_bd (h : pR s k ho ri ba de fa mo) : irm (s.2.1 20 0 k / 32) 4 = nI (ba + 2 * de) := by
  have h2 := pR_lt h
  rw [h.2, show (32 : Int32) = nI 32 from rfl, show (4 : Int32) = nI 4 from rfl, divN h2 (by decide) (by decide), irmN (by omega) (by decide) (by decide)]
  have := h.1
  unfold pkP
  congr 1
  omega
theorem pR_de (h : pR s k ho ri ba de fa mo) : irm (s.2.1 20 0 k / 64) 2 = nI de := by
  have h2 := pR_lt h
  rw [h.2, show (64 : Int32) = nI 64 from rfl, show (2 : Int32) = nI 2 from rfl, divN h2 (by decide) (by decide), irmN (by omega) (by decide) (by decide)]
  have := h.1
  unfold pkP
  congr 1
  omega
theorem Pp_pR {fa mo : Nat → Nat} {od li : Nat} (h : Pp fa mo s k ho ri od ba li) (hf : fa k < 17) (hm : mo k < 17) : pR s k ho ri ba (1 - li) (fa k) (mo k) := ⟨⟨h.1.1, by have := h.1.2.1; omega, h.1.2.2.2.1, by omega, hf, hm⟩, h.2.2.1⟩
end IsP
def sp_L_isPerson : Spc := fun av s N _ => match av with
  | [.inl (.inr (1, 0)), .inl (.inr (20, 0)), .inl (.inr (21, 0)), .inl (.inr (23, 0)), .inl (.inr (24, 0)), .inl (.inr (25, 0)), .inl (.inr (30, 0)), .inl (.inl what), .inl (.inl one), .inl (.inl two)] =>
    ∃ t w a b : Nat, t < 64 ∧ w < 6 ∧ a < 60000 ∧ b < 60000 ∧ what = nI w ∧ one = nI a ∧ two = nI b ∧ Rl t s ∧ ∀ s2, Rl (t + 1) s2 → N (some (aI 1)) s2
  | _ => False
abbrev lP (w a b : Nat) : LC := [(0, .inr (1, 0)), (1, .inr (20, 0)), (2, .inr (21, 0)), (3, .inr (23, 0)), (4, .inr (24, 0)), (5, .inr (25, 0)), (6, .inr (30, 0)), (7, .inl (nI w)), (8, .inl (nI a)), (9, .inl (nI b))]
abbrev lPp (w a b p : Nat) (is : Int32) : LC := [(0, .inr (1, 0)), (1, .inr (20, 0)), (2, .inr (21, 0)), (3, .inr (23, 0)), (4, .inr (24, 0)), (5, .inr (25, 0)), (6, .inr (30, 0)), (7, .inl (nI w)), (8, .inl (nI a)), (9, .inl (nI b)), (10, .inl (nI p)), (11, .inl is)]
theorem Bv_1 {x : Int32} {P : Prop} (h : Bv x P) (p : P) : x = 1 := h.elim (fun z => z.1) (fun z => absurd p z.2)
theorem Bv_0 {x : Int32} {P : Prop} (h : Bv x P) (p : ¬ P) : x = 0 := h.elim (fun z => absurd z.2 p) (fun z => z.1)
theorem nIm (a b : Nat) : nI a * nI b = nI (a * b) := pk_mul a b
theorem upd_i {A m i r : Nat} : nI (A + m * r) + nI m * (nI i - nI r) = nI (A + m * i) := by
  rw [Int32.mul_sub, nIm, nIm, ← nI_add, ← nI_add, Int32.add_assoc, Int32.add_comm (nI (m * r)), Int32.sub_add_cancel]
section IsPs
variable {N : Nt} {X : Xt} {Z : Kt} {s : Sg} {t a b p : Nat} {x : Int32}
set_option maxRecDepth 100000 in
set_option maxHeartbeats 4000000 in
theorem isP_order (run : Rn tab_L_isPerson 20 N X Z) (ht : t < 64) (hR : Rl t s) (hp : p ≤ s.1 0) (hx : Bv x (p < s.1 0)) (hN : ∀ s2, Rl (t + 1) s2 → N (some (aI 1)) s2) : Z 505 0 (lPp 2 a b p x) [] s := by
  have hn := Rl_n hR
  have cp : (nI p).toNatClampNeg = p := nI_clamp (by omega)
  have ep : (16 : Int32) + nI p = nI (16 + p) := nI_add 16 p
  have c16 : ((16 : Int32) + nI p).toNatClampNeg = 16 + p := by rw [ep]; exact nI_clamp (by omega)
  have b20 : Ib (nI p) 17 := nIb (by omega) (by decide)
  have b21 : Ib ((16 : Int32) + nI p) 33 := by rw [ep]; exact nIb (by omega) (by decide)
  have b32 : Ib 32 33 := nIb (k := 32) (by decide) (by decide)
  have b0 : Ib 0 4 := nIb (k := 0) (by decide) (by decide)
  by_cases hp2 : p < s.1 0
  · obtain rfl := Bv_1 hx hp2
    obtain ⟨fa, mo, T, h⟩ := hR
    obtain ⟨ho, ri, od, ba, li, hP⟩ := Rg_p h hp2
    obtain ⟨f1, f2⟩ := Rg_fm h hp2
    have hb9 := hP.1
    have hpr := Pp_pR hP (by omega) (by omega)
    have ede := pR_de hpr
    obtain ⟨d, hd, -, hd0⟩ := h.1.2.2.2.2.2
    have hd1 : d ≤ 10000 * t := hd
    by_cases hc : li = 1 ∧ od = 0
    · obtain ⟨rfl, rfl⟩ := hc
      have hb : s.2.1 21 0 (16 + p) = -1 := by
        rcases hP.2.2.2.2.2 with z | z
        · exact z.2
        · exact absurd z.1 (by decide)
      have n1 : ¬ (0 : Int32) ≤ s.2.1 21 0 (16 + p) := by rw [hb]; decide
      have e1 : irm (s.2.1 20 0 p / 64) 2 = 0 := ede
      have n1' : ¬ (0 : Int32) ≤ s.2.1 21 0 ((16 : Int32) + nI p).toNatClampNeg := by rw [c16]; exact n1
      have e1' : irm (s.2.1 20 0 (nI p).toNatClampNeg / 64) 2 = 0 := by rw [cp]; exact e1
      have g := order_0 (X := X) h hp2 (d := d) (by omega) rfl rfl hP
      rw [← hd0, ← c16] at g
      refine run.go [] 80 ?_
      repeat' (first | apply And.intro | (intro q; exact absurd q (by decide)) | (intro q; exact absurd (by decide) q) | (intro q; exact absurd rfl q) | (intro q; exact absurd q n1') | (intro q; exact absurd n1' q) | (intro q; exact absurd q e1') | (intro q; exact absurd e1' q) | intro _)
      all_goals first | (exact b20) | (exact b21) | (exact b0) | (exact trivial) | (with_reducible exact Nat.le_refl _) | decide | (exact (rfl : (0 : Nat) = 0)) | (exact Nat.le_of_ble_eq_true rfl) | ((with_reducible show False); contradiction) | skip
      refine ⟨_, g, ?_⟩
      rintro r s2 ⟨rfl, h2⟩
      repeat' (first | apply And.intro | (intro q; exact absurd q (by decide)) | (intro q; exact absurd (by decide) q) | (intro q; exact absurd rfl q) | intro _)
      all_goals first | (exact trivial) | (with_reducible exact Nat.le_refl _) | decide | (exact (rfl : (0 : Nat) = 0)) | (exact Nat.le_of_ble_eq_true rfl) | ((with_reducible show False); contradiction) | (exact hN s2 (Rl_mono (by omega) h2))
    · have hcc : ¬ (¬ s.2.1 12 p 5 = 0 ∧ s.2.1 12 p 3 = 0) := by
        rintro ⟨z1, z2⟩
        rw [hP.2.1.2.2.2.2] at z1
        rw [hP.2.1.2.2.1] at z2
        refine hc ⟨?_, (n0 (by omega)).mp z2⟩
        have w : ¬ li = 0 := fun z => z1 ((n0 (j := li) (by omega)).mpr z)
        omega
      have g : ∀ v, sp_L_does [aR 1 0, aI 3, aI (nI p), aI 0, aI 0, aI 0] (stS s 21 0 32 v) (Dn (-1000000) t) X := fun v => order_3 (Rl_scr (by omega) (Rl_of h)) hp2 hcc
      have fin : Z 543 0 (lPp 2 a b p 1) [aI 0] s := by
        refine run.go [] 60 ?_
        repeat' (first | apply And.intro | (intro q; exact absurd q (by decide)) | (intro q; exact absurd (by decide) q) | (intro q; exact absurd rfl q) | intro _)
        all_goals first | (exact b32) | (exact b0) | (exact trivial) | (with_reducible exact Nat.le_refl _) | decide | (exact (rfl : (0 : Nat) = 0)) | (exact Nat.le_of_ble_eq_true rfl) | ((with_reducible show False); contradiction) | skip
        refine ⟨_, g _, ?_⟩
        rintro r s2 ⟨rfl, h2⟩
        repeat' (first | apply And.intro | (intro q; exact absurd q (by decide)) | (intro q; exact absurd (by decide) q) | (intro q; exact absurd rfl q) | intro _)
        all_goals first | (exact trivial) | (with_reducible exact Nat.le_refl _) | decide | (exact (rfl : (0 : Nat) = 0)) | (exact Nat.le_of_ble_eq_true rfl) | ((with_reducible show False); contradiction) | (exact hN s2 (Rl_mono (by omega) h2))
      refine run.go [543] 40 ?_
      repeat' (first | apply And.intro | (intro q; exact absurd q (by decide)) | (intro q; exact absurd (by decide) q) | (intro q; exact absurd rfl q) | intro _)
      all_goals first | (exact b20) | (exact b21) | (exact b0) | (exact trivial) | (with_reducible exact Nat.le_refl _) | decide | (exact (rfl : (0 : Nat) = 0)) | (exact Nat.le_of_ble_eq_true rfl) | ((with_reducible show False); contradiction) | (exact fin) | skip
      rename_i q1 q2
      exfalso
      rw [cp] at q1
      rw [c16] at q2
      refine hc ⟨?_, ?_⟩
      · have w1 : irm (s.2.1 20 0 p / 64) 2 = 0 := Classical.not_not.mp q1
        rw [ede] at w1
        have w2 := (n0 (j := 1 - li) (by omega)).mp w1
        have w3 := hP.1.2.2.2.2
        omega
      · rcases hP.2.2.2.2.2 with w | ⟨w1, d2, hd2, w3⟩
        · exact w.1
        · refine absurd ?_ q2
          show (0 : Int32) ≤ s.2.1 21 0 (16 + p)
          rw [w3]
          exact Int32.not_lt.mp (nI_pos (by omega))
  · obtain rfl := Bv_0 hx hp2
    have g : ∀ v, sp_L_does [aR 1 0, aI 3, aI (nI p), aI 0, aI 0, aI 0] (stS s 21 0 32 v) (Dn (-3000000) t) X := fun v => order_1 (Rl_scr (by omega) hR) hp2 (by omega)
    refine run.go [] 80 ?_
    repeat' (first | apply And.intro | (intro q; exact absurd q (by decide)) | (intro q; exact absurd (by decide) q) | (intro q; exact absurd rfl q) | intro _)
    all_goals first | (exact b32) | (exact b0) | (exact trivial) | (with_reducible exact Nat.le_refl _) | decide | (exact (rfl : (0 : Nat) = 0)) | (exact Nat.le_of_ble_eq_true rfl) | ((with_reducible show False); contradiction) | skip
    refine ⟨_, g _, ?_⟩
    rintro r s2 ⟨rfl, h2⟩
    repeat' (first | apply And.intro | (intro q; exact absurd q (by decide)) | (intro q; exact absurd (by decide) q) | (intro q; exact absurd rfl q) | intro _)
    all_goals first | (exact trivial) | (with_reducible exact Nat.le_refl _) | decide | (exact (rfl : (0 : Nat) = 0)) | (exact Nat.le_of_ble_eq_true rfl) | ((with_reducible show False); contradiction) | (exact hN s2 (Rl_mono (by omega) h2))
set_option maxRecDepth 100000 in
set_option maxHeartbeats 4000000 in
theorem isP_ban (run : Rn tab_L_isPerson 20 N X Z) (ht : t < 64) (hR : Rl t s) (hp : p ≤ s.1 0) (hx : Bv x (p < s.1 0)) (hN : ∀ s2, Rl (t + 1) s2 → N (some (aI 1)) s2) : Z 606 0 (lPp 3 a b p x) [] s := by
  have hn := Rl_n hR
  have cp : (nI p).toNatClampNeg = p := nI_clamp (by omega)
  have b20 : Ib (nI p) 17 := nIb (by omega) (by decide)
  have b16 : Ib 16 17 := nIb (k := 16) (by decide) (by decide)
  by_cases hp2 : p < s.1 0
  · obtain rfl := Bv_1 hx hp2
    obtain ⟨fa, mo, T, h⟩ := hR
    obtain ⟨ho, ri, od, ba, li, hP⟩ := Rg_p h hp2
    obtain ⟨f1, f2⟩ := Rg_fm h hp2
    have hb9 := hP.1
    have hpr := Pp_pR hP (by omega) (by omega)
    have eba := pR_ba hpr
    have er := hP.2.2.1
    have g := ban_0 (X := X) h hp2 hP
    by_cases hb : ba = 1
    · subst hb
      have e1 : irm (s.2.1 20 0 (nI p).toNatClampNeg / 32) 2 = 1 := by rw [cp]; exact eba
      have e2 : s.2.1 20 0 p + (-32) = nI (pkP ho ri (1 - 1) (1 - li) (fa p) (mo p)) := by
        rw [er, show (-32 : Int32) = -nI 32 from rfl, ← Int32.sub_eq_add_neg, pk_sub (by unfold pkP; omega)]
        congr 1
        unfold pkP
        omega
      rw [← e2] at g
      have j : Z 630 0 (lPp 3 a b p 1) [aI (irm (s.2.1 20 0 (nI p).toNatClampNeg / 32) 2)] s := by
        rw [e1]
        refine run.go [] 80 ?_
        repeat' (first | apply And.intro | (intro q; exact absurd q (by decide)) | (intro q; exact absurd (by decide) q) | (intro q; exact absurd rfl q) | intro _)
        all_goals first | (exact b20) | (exact trivial) | (with_reducible exact Nat.le_refl _) | decide | (exact (rfl : (0 : Nat) = 0)) | (exact Nat.le_of_ble_eq_true rfl) | ((with_reducible show False); contradiction) | skip
        rw [cp]
        refine ⟨_, g, ?_⟩
        rintro r s2 ⟨rfl, h2⟩
        repeat' (first | apply And.intro | (intro q; exact absurd q (by decide)) | (intro q; exact absurd (by decide) q) | (intro q; exact absurd rfl q) | intro _)
        all_goals first | (exact trivial) | (with_reducible exact Nat.le_refl _) | decide | (exact (rfl : (0 : Nat) = 0)) | (exact Nat.le_of_ble_eq_true rfl) | ((with_reducible show False); contradiction) | (exact hN s2 (Rl_mono (by omega) h2))
      refine run.go [630] 30 ?_
      repeat' (first | apply And.intro | (intro q; exact absurd q (by decide)) | (intro q; exact absurd (by decide) q) | (intro q; exact absurd rfl q) | intro _)
      all_goals first | (exact b20) | (exact trivial) | (with_reducible exact Nat.le_refl _) | decide | (exact (rfl : (0 : Nat) = 0)) | (exact Nat.le_of_ble_eq_true rfl) | ((with_reducible show False); contradiction) | exact j
    · obtain rfl : ba = 0 := by omega
      have e1 : irm (s.2.1 20 0 (nI p).toNatClampNeg / 32) 2 = 0 := by rw [cp]; exact eba
      have e2 : s.2.1 20 0 p + 32 = nI (pkP ho ri (1 - 0) (1 - li) (fa p) (mo p)) := by
        rw [er, show (32 : Int32) = nI 32 from rfl, nI_add]
        congr 1
        unfold pkP
        omega
      rw [← e2] at g
      have j : Z 630 0 (lPp 3 a b p 1) [aI (irm (s.2.1 20 0 (nI p).toNatClampNeg / 32) 2)] s := by
        rw [e1]
        refine run.go [] 80 ?_
        repeat' (first | apply And.intro | (intro q; exact absurd q (by decide)) | (intro q; exact absurd (by decide) q) | (intro q; exact absurd rfl q) | intro _)
        all_goals first | (exact b20) | (exact trivial) | (with_reducible exact Nat.le_refl _) | decide | (exact (rfl : (0 : Nat) = 0)) | (exact Nat.le_of_ble_eq_true rfl) | ((with_reducible show False); contradiction) | skip
        rw [cp]
        refine ⟨_, g, ?_⟩
        rintro r s2 ⟨rfl, h2⟩
        repeat' (first | apply And.intro | (intro q; exact absurd q (by decide)) | (intro q; exact absurd (by decide) q) | (intro q; exact absurd rfl q) | intro _)
        all_goals first | (exact trivial) | (with_reducible exact Nat.le_refl _) | decide | (exact (rfl : (0 : Nat) = 0)) | (exact Nat.le_of_ble_eq_true rfl) | ((with_reducible show False); contradiction) | (exact hN s2 (Rl_mono (by omega) h2))
      refine run.go [630] 30 ?_
      repeat' (first | apply And.intro | (intro q; exact absurd q (by decide)) | (intro q; exact absurd (by decide) q) | (intro q; exact absurd rfl q) | intro _)
      all_goals first | (exact b20) | (exact trivial) | (with_reducible exact Nat.le_refl _) | decide | (exact (rfl : (0 : Nat) = 0)) | (exact Nat.le_of_ble_eq_true rfl) | ((with_reducible show False); contradiction) | exact j
  · obtain rfl := Bv_0 hx hp2
    have g : ∀ v, sp_L_does [aR 1 0, aI 4, aI (nI p), aI 0, aI 0, aI 0] (stS s 20 0 16 v) (Dn (-3000000) t) X := fun v => ban_1 (Rl_scr (by omega) hR) hp2 (by omega)
    refine run.go [] 80 ?_
    repeat' (first | apply And.intro | (intro q; exact absurd q (by decide)) | (intro q; exact absurd (by decide) q) | (intro q; exact absurd rfl q) | intro _)
    all_goals first | (exact b16) | (exact trivial) | (with_reducible exact Nat.le_refl _) | decide | (exact (rfl : (0 : Nat) = 0)) | (exact Nat.le_of_ble_eq_true rfl) | ((with_reducible show False); contradiction) | skip
    refine ⟨_, g _, ?_⟩
    rintro r s2 ⟨rfl, h2⟩
    repeat' (first | apply And.intro | (intro q; exact absurd q (by decide)) | (intro q; exact absurd (by decide) q) | (intro q; exact absurd rfl q) | intro _)
    all_goals first | (exact trivial) | (with_reducible exact Nat.le_refl _) | decide | (exact (rfl : (0 : Nat) = 0)) | (exact Nat.le_of_ble_eq_true rfl) | ((with_reducible show False); contradiction) | (exact hN s2 (Rl_mono (by omega) h2))
end IsPs

