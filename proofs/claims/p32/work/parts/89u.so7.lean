/-! the law's isSo: kin, bound, state -/
section So7
variable {N : Nt} {X : Xt} {Z : Kt} {s : Sg} {t a b k : Nat} {fa mo : Nat → Nat} {T : Nat → Nat → Nat}
theorem bestN_sym {F H : Nat → Nat} : ∀ k, bestN F H k = bestN H F k
  | 0 => rfl
  | k + 1 => by
    unfold bestN
    rw [bestN_sym k, Nat.add_comm (F k) (H k)]
    by_cases h : H k < 50 ∧ F k < 50 ∧ H k + F k < bestN H F k
    · rw [if_pos h, if_pos ⟨h.2.1, h.1, h.2.2⟩]
    · rw [if_neg h, if_neg (fun w => h ⟨w.2.1, w.1, w.2.2⟩)]
theorem kinV_sym {F H : Nat → Nat} {i j : Nat} : kinV H F j i = kinV F H i j := by
  unfold kinV
  rw [bestN_sym (F := H) (H := F)]
  by_cases h : F j = bestN F H 16 ∨ H i = bestN F H 16
  · rw [if_pos h, if_pos h.symm]
  · rw [if_neg h, if_neg (fun w => h (Or.symm w))]
theorem ki_cl (h : Rg t fa mo T (rows s) s) {p q : Nat} (hp : p < s.1 0) (hq : q < s.1 0) : sp_X4_kin [aR 1 0, aI (nI p), aI (nI q)] s (fun r s' => s' = s ∧ r = some (aI (kinV (lnF fa mo p) (lnF fa mo q) p q))) X := by
  have hn := Rg_n h
  refine ⟨Rg_CI h, fun w => absurd ⟨(iC_N (by omega) (by omega)).mpr hp, (iC_N (by omega) (by omega)).mpr hq⟩ w, fun _ => ?_⟩
  rcases kin_cl h hp hq with ⟨e1, e2, e3⟩ | ⟨dg, il, hd, hi, e1, e2, e3⟩
  · rw [e1, e3]
    exact ⟨fun _ => ⟨rfl, rfl⟩, fun w => absurd w (by decide), fun w => absurd w (by decide)⟩
  · have hlt : nI dg < 100 := (nI_ltI (b := 100) (by omega) (by decide)).mpr (by omega)
    rw [e1, e3]
    refine ⟨fun w => absurd hlt w, fun _ w => ⟨rfl, ?_⟩, fun _ w => ⟨rfl, ?_⟩⟩
    · rw [e2.mp w]
      show some (aI (nI 100 * nI dg + nI 1)) = _
      rw [nIm, nI_add]
    · have : il = 0 := by
        have : ¬ il = 1 := fun z => w (e2.mpr z)
        omega
      rw [this]
      show some (aI (nI 100 * nI dg + nI 0)) = _
      rw [nIm, nI_add]
theorem bd_cl (h : Rg t fa mo T (rows s) s) {p d : Nat} (hp : p < s.1 0) (hd : d ≤ 1000000) : sp_X4_bound [aR 1 0, aI (nI p), aI (nI d)] s (fun r s' => s' = s ∧ r = some (aI (lbC s (nI p) (nI d) (s.1 1) 0))) X := by
  have hn := Rg_n h
  exact ⟨Rg_CI h, fun w => absurd ((iC_N (by omega) (by omega)).mpr hp) w, fun _ => ⟨fun w => absurd ((rgL (b := 1000000) (by omega) (by decide)).mpr hd) w, fun _ => ⟨rfl, rfl⟩⟩⟩
theorem st_cl (h : Rg t fa mo T (rows s) s) {p d : Nat} (hp : p < s.1 0) (hd : d ≤ 1000000) {i c : Int32} (n : Nat) (hn : n < 100) (hi : i = nI n) (hc : nI ((dsL s (nI p) (nI d)).getD n 0) = c) : sp_X4_state [aR 1 0, aI (nI p), aI (nI d), aI i] s (fun r s' => s' = s ∧ r = some (aI c)) X := by
  have hm := Rg_n h
  subst hi
  subst hc
  exact ⟨Rg_CI h, Rg_GI h, h.1.2.2.1.1, h.1.2.2.1.2.1, by omega, fun w => absurd ⟨(iC_N (by omega) (by omega)).mpr hp, Int32.not_lt.mp (nI_pos (by omega))⟩ w, fun _ => ⟨fun w => absurd ((rgL (b := 1000000) (by omega) (by decide)).mpr hd) w, fun _ => ⟨rfl, by unfold chC; rw [clN (by omega)]⟩⟩⟩
theorem ds_f {p d : Int32} (e : lbC s p d (s.1 1) 0 = -1) : dsL s p d = ltx 0 := by
  unfold dsL
  rw [if_pos e]
theorem nI_no {v : Nat} (hv : v < 2 ^ 30) : ¬ nI v = -1 := fun q => by
  have := nI_pos' (n := v) (by omega)
  rw [q] at this
  exact absurd this (by decide)
theorem ds_b {p d : Int32} {v w : Nat} (hv : v < 2 ^ 30) (hw : w < 2 ^ 30) (e : lbC s p d (s.1 1) 0 = nI v) (ew : ptC s v p = nI w) : dsL s p d = ltx 1 ++ numL v ++ ltx 2 ++ numL w := by
  unfold dsL
  rw [e, if_neg (nI_no hv), clN hv, ew, clN hw]
theorem ch_id : ∀ n, n < 100 → ((nI n).toUInt32 % 65536).toInt32 = nI n := by decide +kernel
end So7

