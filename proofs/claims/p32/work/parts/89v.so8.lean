/-! the law's isSo: whom it asks of, on which day -/
section So8
variable {N : Nt} {X : Xt} {Z : Kt} {s : Sg} {t a b k : Nat} {fa mo : Nat → Nat} {T : Nat → Nat → Nat}
set_option maxRecDepth 100000 in
set_option maxHeartbeats 4000000 in
theorem so_d {u : Nat} (run : Rn tab_L_isSo 450 N X Z) (h : Rg t fa mo T (rows s) s) (ht : t ≤ 64) (ha : a < 60000) (hb : b < 60000) (h0 : 0 < s.1 0)
    (nx : ∀ P O D M : Int32, P = nI (a % s.1 0) → O = nI (b % s.1 0) → (∃ d, d ≤ 1000000 ∧ D = nI d) → M = nI (s.1 1) - 1 → Z 442 u (lS a b ++ [(10, .inl 1), (11, .inl P), (12, .inl O), (13, .inl D), (14, .inl (-1)), (15, .inl M)]) [] s) : Z 372 u (lS a b ++ [(10, .inl 1)]) [] s := by
  have hn := Rg_n h
  have b0 : Ib 0 4 := nIb (k := 0) (by decide) (by decide)
  have b1 : Ib 1 4 := nIb (k := 1) (by decide) (by decide)
  have b2 : Ib 2 4 := nIb (k := 2) (by decide) (by decide)
  obtain ⟨d, hd, d7, d0⟩ := h.1.2.2.2.2.2
  have g1 : s.2.1 30 0 1 = nI (s.1 0) := h.1.2.2.2.2.1.1
  have g2 : s.2.1 30 0 2 = nI (s.1 1) := h.1.2.2.2.2.1.2.1
  have g0 : s.2.1 30 0 0 = nI d := d0
  have hp : ¬ s.2.1 30 0 1 ≤ 0 := by rw [g1]; exact nI_ge (b := s.1 0) h0 (by omega)
  have hz : ¬ s.2.1 30 0 1 = 0 := by
    rw [g1]
    exact fun w => absurd ((n0 (by omega)).mp w) (by omega)
  have eP : irm (nI a) (s.2.1 30 0 1) = nI (a % s.1 0) := by rw [g1]; exact irmN (by omega) h0 (by omega)
  have eO : irm (nI b) (s.2.1 30 0 1) = nI (b % s.1 0) := by rw [g1]; exact irmN (by omega) h0 (by omega)
  have eM : s.2.1 30 0 2 - 1 = nI (s.1 1) - 1 := by rw [g2]
  have h3 : ¬ (3 : Int32) = 0 := by decide
  have e3 : irm (nI b) 3 = nI (b % 3) := irmN (d := 3) (by omega) (by decide) (by decide)
  by_cases c : b % 3 = 0
  · have hc : ¬ ¬ irm (nI b) 3 = 0 := by
      rw [e3, c]
      exact fun w => w rfl
    refine run.go [442] 80 ?_
    repeat' (first | apply And.intro | (intro q; exact absurd q (by decide)) | (intro q; exact absurd (by decide) q) | (intro q; exact absurd rfl q) | (intro q; exact absurd q hp) | (intro q; exact absurd hp q) | (intro q; exact absurd q hc) | (intro q; exact absurd hc q) | intro _)
    all_goals first | (exact b0) | (exact b1) | (exact b2) | (exact hz) | (exact trivial) | (with_reducible exact Nat.le_refl _) | decide | (exact (rfl : (0 : Nat) = 0)) | (exact Nat.le_of_ble_eq_true rfl) | ((with_reducible show False); contradiction) | (exact nx _ _ _ _ eP eO ⟨d, by omega, g0⟩ eM)
  · have hc : ¬ irm (nI b) 3 = 0 := by
      rw [e3]
      exact fun w => c ((n0 (by omega)).mp w)
    have e5 : s.2.1 30 0 0 + 500 = nI (d + 500) := by
      rw [g0]
      exact nI_add d 500
    have hz5 : ¬ s.2.1 30 0 0 + 500 = 0 := by
      rw [e5]
      exact fun w => absurd ((n0 (by omega)).mp w) (by omega)
    have eD : irm (nI b / 3) (s.2.1 30 0 0 + 500) = nI (b / 3 % (d + 500)) := by
      rw [e5, show nI b / 3 = nI (b / 3) from divN (d := 3) (by omega) (by decide) (by decide)]
      exact irmN (by omega) (by omega) (by omega)
    have hm : b / 3 % (d + 500) < d + 500 := Nat.mod_lt _ (by omega)
    refine run.go [442] 80 ?_
    repeat' (first | apply And.intro | (intro q; exact absurd q (by decide)) | (intro q; exact absurd (by decide) q) | (intro q; exact absurd rfl q) | (intro q; exact absurd q hp) | (intro q; exact absurd hp q) | (intro q; exact absurd q hc) | (intro q; exact absurd hc q) | intro _)
    all_goals first | (exact b0) | (exact b1) | (exact b2) | (exact hz) | (exact hz5) | (exact trivial) | (with_reducible exact Nat.le_refl _) | decide | (exact (rfl : (0 : Nat) = 0)) | (exact Nat.le_of_ble_eq_true rfl) | ((with_reducible show False); contradiction) | (exact nx _ _ _ _ eP eO ⟨_, by omega, eD⟩ eM)
set_option maxRecDepth 100000 in
set_option maxHeartbeats 4000000 in
theorem so_k {u p o d : Nat} (run : Rn tab_L_isSo 450 N X Z) (h : Rg t fa mo T (rows s) s) (hu : u ≤ 288) (hp : p < s.1 0) (ho : o < s.1 0) (hd : d ≤ 1000000)
    (jf : ∀ u, u ≤ 314 → Z 746 u (lS a b ++ [(10, .inl 1)]) [] s)
    (jb : ∀ u v, u ≤ 314 → v < s.1 1 → lbC s (nI p) (nI d) (s.1 1) 0 = nI v → Z 577 u (lSb a b p o (nI d) (nI v) (-1)) [] s) : Z 442 u (lSb a b p o (nI d) (lbC s (nI p) (nI d) (s.1 1) 0) (-1)) [] s := by
  have hn := Rg_n h
  obtain ⟨kv, hkv⟩ : ∃ kv, kv = kinV (lnF fa mo p) (lnF fa mo o) p o := ⟨_, rfl⟩
  have k1 : sp_X4_kin [aR 1 0, aI (nI p), aI (nI o)] s (fun r s' => s' = s ∧ r = some (aI kv)) X := by rw [hkv]; exact ki_cl h hp ho
  have k2 : sp_X4_kin [aR 1 0, aI (nI o), aI (nI p)] s (fun r s' => s' = s ∧ r = some (aI kv)) X := by rw [hkv, ← kinV_sym]; exact ki_cl h ho hp
  have k3 : sp_L_kin [aR 20 0, aI (nI p), aI (nI o)] s (fun r s' => s' = s ∧ r = some (aI kv)) X := by rw [hkv]; exact ⟨s.1 0, p, o, fa, mo, hp, ho, rfl, rfl, Rg_pa h, (Rg_18 h).1, (Rg_18 h).2, rfl, rfl⟩
  have b1 : sp_X4_bound [aR 1 0, aI (nI p), aI (nI d)] s (fun r s' => s' = s ∧ r = some (aI (lbC s (nI p) (nI d) (s.1 1) 0))) X := bd_cl h hp hd
  have hm : ((-1 : Int32) < 0) := by decide
  rcases lbC_or (s := s) (p := nI p) (t := nI d) (s.1 1) 0 with e | ⟨v, -, hv, e, -⟩
  · have c1 : sp_X4_state [aR 1 0, aI (nI p), aI (nI d), aI 0] s (fun r s' => s' = s ∧ r = some (aI 102)) X := st_cl h hp hd 0 (by decide) rfl (by rw [ds_f e, tx_f]; rfl)
    rw [e] at b1 ⊢
    refine run.go [746] 100 ?_
    repeat' (first | apply And.intro | (intro q; exact absurd q (by decide)) | (intro q; exact absurd (by decide) q) | (intro q; exact absurd rfl q) | (intro q; exact absurd q hm) | (intro q; exact absurd hm q) | intro _)
    all_goals first | (exact trivial) | (with_reducible exact Nat.le_refl _) | decide | (exact (rfl : (0 : Nat) = 0)) | (exact Nat.le_of_ble_eq_true rfl) | ((with_reducible show False); contradiction) | omega | skip
    refine ⟨_, k1, ?_⟩
    rintro r s0 ⟨rfl, rfl⟩
    repeat' (first | apply And.intro | (intro q; exact absurd q (by decide)) | (intro q; exact absurd (by decide) q) | (intro q; exact absurd rfl q) | intro _)
    all_goals first | (exact trivial) | (with_reducible exact Nat.le_refl _) | decide | (exact (rfl : (0 : Nat) = 0)) | (exact Nat.le_of_ble_eq_true rfl) | ((with_reducible show False); contradiction) | omega | skip
    refine ⟨_, k3, ?_⟩
    rintro r s1 ⟨rfl, rfl⟩
    repeat' (first | apply And.intro | (intro q; exact absurd q (by decide)) | (intro q; exact absurd (by decide) q) | (intro q; exact absurd rfl q) | intro _)
    all_goals first | (exact trivial) | (with_reducible exact Nat.le_refl _) | decide | (exact (rfl : (0 : Nat) = 0)) | (exact Nat.le_of_ble_eq_true rfl) | ((with_reducible show False); contradiction) | omega | skip
    refine ⟨_, k2, ?_⟩
    rintro r s2 ⟨rfl, rfl⟩
    repeat' (first | apply And.intro | (intro q; exact absurd q (by decide)) | (intro q; exact absurd (by decide) q) | (intro q; exact absurd rfl q) | intro _)
    all_goals first | (exact trivial) | (with_reducible exact Nat.le_refl _) | decide | (exact (rfl : (0 : Nat) = 0)) | (exact Nat.le_of_ble_eq_true rfl) | ((with_reducible show False); contradiction) | omega | skip
    refine ⟨_, k1, ?_⟩
    rintro r s3 ⟨rfl, rfl⟩
    repeat' (first | apply And.intro | (intro q; exact absurd q (by decide)) | (intro q; exact absurd (by decide) q) | (intro q; exact absurd rfl q) | intro _)
    all_goals first | (exact trivial) | (with_reducible exact Nat.le_refl _) | decide | (exact (rfl : (0 : Nat) = 0)) | (exact Nat.le_of_ble_eq_true rfl) | ((with_reducible show False); contradiction) | omega | skip
    refine ⟨_, b1, ?_⟩
    rintro r s4 ⟨rfl, rfl⟩
    repeat' (first | apply And.intro | (intro q; exact absurd q (by decide)) | (intro q; exact absurd (by decide) q) | (intro q; exact absurd rfl q) | intro _)
    all_goals first | (exact trivial) | (with_reducible exact Nat.le_refl _) | decide | (exact (rfl : (0 : Nat) = 0)) | (exact Nat.le_of_ble_eq_true rfl) | ((with_reducible show False); contradiction) | omega | skip
    refine ⟨_, c1, ?_⟩
    rintro r s5 ⟨rfl, rfl⟩
    repeat' (first | apply And.intro | (intro q; exact absurd q (by decide)) | (intro q; exact absurd (by decide) q) | (intro q; exact absurd rfl q) | intro _)
    all_goals first | (exact trivial) | (with_reducible exact Nat.le_refl _) | decide | (exact (rfl : (0 : Nat) = 0)) | (exact Nat.le_of_ble_eq_true rfl) | ((with_reducible show False); contradiction) | omega | (exact run.take 11 (jf _ (by omega)))
  · have hv : v < s.1 1 := by omega
    have e0 : ¬ nI v < 0 := nI_pos (by omega)
    have e1 : 0 ≤ nI v := Int32.not_lt.mp e0
    have c1 : sp_X4_state [aR 1 0, aI (nI p), aI (nI d), aI 0] s (fun r s' => s' = s ∧ r = some (aI 98)) X := st_cl h hp hd 0 (by decide) rfl (by
      unfold dsL
      rw [e, if_neg (nI_no (by omega))]
      rfl)
    have jb := fun u hu => jb u v hu hv e
    rw [e] at b1 ⊢
    refine run.go [746, 577] 100 ?_
    repeat' (first | apply And.intro | (intro q; exact absurd q (by decide)) | (intro q; exact absurd (by decide) q) | (intro q; exact absurd rfl q) | (intro q; exact absurd q hm) | (intro q; exact absurd hm q) | intro _)
    all_goals first | (exact trivial) | (with_reducible exact Nat.le_refl _) | decide | (exact (rfl : (0 : Nat) = 0)) | (exact Nat.le_of_ble_eq_true rfl) | ((with_reducible show False); contradiction) | omega | skip
    refine ⟨_, k1, ?_⟩
    rintro r s0 ⟨rfl, rfl⟩
    repeat' (first | apply And.intro | (intro q; exact absurd q (by decide)) | (intro q; exact absurd (by decide) q) | (intro q; exact absurd rfl q) | intro _)
    all_goals first | (exact trivial) | (with_reducible exact Nat.le_refl _) | decide | (exact (rfl : (0 : Nat) = 0)) | (exact Nat.le_of_ble_eq_true rfl) | ((with_reducible show False); contradiction) | omega | skip
    refine ⟨_, k3, ?_⟩
    rintro r s1 ⟨rfl, rfl⟩
    repeat' (first | apply And.intro | (intro q; exact absurd q (by decide)) | (intro q; exact absurd (by decide) q) | (intro q; exact absurd rfl q) | intro _)
    all_goals first | (exact trivial) | (with_reducible exact Nat.le_refl _) | decide | (exact (rfl : (0 : Nat) = 0)) | (exact Nat.le_of_ble_eq_true rfl) | ((with_reducible show False); contradiction) | omega | skip
    refine ⟨_, k2, ?_⟩
    rintro r s2 ⟨rfl, rfl⟩
    repeat' (first | apply And.intro | (intro q; exact absurd q (by decide)) | (intro q; exact absurd (by decide) q) | (intro q; exact absurd rfl q) | intro _)
    all_goals first | (exact trivial) | (with_reducible exact Nat.le_refl _) | decide | (exact (rfl : (0 : Nat) = 0)) | (exact Nat.le_of_ble_eq_true rfl) | ((with_reducible show False); contradiction) | omega | skip
    refine ⟨_, k1, ?_⟩
    rintro r s3 ⟨rfl, rfl⟩
    repeat' (first | apply And.intro | (intro q; exact absurd q (by decide)) | (intro q; exact absurd (by decide) q) | (intro q; exact absurd rfl q) | intro _)
    all_goals first | (exact trivial) | (with_reducible exact Nat.le_refl _) | decide | (exact (rfl : (0 : Nat) = 0)) | (exact Nat.le_of_ble_eq_true rfl) | ((with_reducible show False); contradiction) | omega | skip
    refine ⟨_, b1, ?_⟩
    rintro r s4 ⟨rfl, rfl⟩
    repeat' (first | apply And.intro | (intro q; exact absurd q (by decide)) | (intro q; exact absurd (by decide) q) | (intro q; exact absurd rfl q) | intro _)
    all_goals first | (exact trivial) | (with_reducible exact Nat.le_refl _) | decide | (exact (rfl : (0 : Nat) = 0)) | (exact Nat.le_of_ble_eq_true rfl) | ((with_reducible show False); contradiction) | omega | skip
    refine ⟨_, c1, ?_⟩
    rintro r s5 ⟨rfl, rfl⟩
    repeat' (first | apply And.intro | (intro q; exact absurd q (by decide)) | (intro q; exact absurd (by decide) q) | (intro q; exact absurd rfl q) | (intro q; exact absurd q e0) | (intro q; exact absurd e0 q) | (intro q; exact absurd q e1) | (intro q; exact absurd e1 q) | intro _)
    all_goals first | (exact trivial) | (with_reducible exact Nat.le_refl _) | decide | (exact (rfl : (0 : Nat) = 0)) | (exact Nat.le_of_ble_eq_true rfl) | ((with_reducible show False); contradiction) | omega | (exact jb _ (by omega))
end So8

