/-! the law's loop: cases 20 to 28 -/
section Cas
variable {L n u : Nat} {xs : Nat → Int32} {s : Sg}
set_option maxRecDepth 20000 in
set_option maxHeartbeats 2000000 in
theorem case_20 (hL : L ≤ 2560) (hn : 5 * n + 4 < L) (hu : u ≤ 400 + 18 * n) (h : Rl (10000 * n) s) : wp (lk (tab_lawC20 L xs)) (cE n) 150256 (fun _ _ => False) (fun _ _ => False) 90 1438 u (lp n) [] s := by
  have h' : Rl (10000 * (n + 1)) s := Rl_mono (by omega) h
  have hD : 10000 * n ≤ 10000000 := by omega
  have b1 : Ib (nI (5 * n) + 1) L := ib_k hn hL (j := 1) rfl (by decide)
  refine ⟨b1, by omega, Nat.le_of_ble_eq_true rfl, trivial, trivial, rfl, ⟨rfl, by decide⟩, rfl, _, al_pass hD h, ?_⟩
  rintro r s1 ⟨kk, rfl, h2⟩
  refine ⟨b1, ⟨rfl, by decide⟩, by omega, Nat.le_of_ble_eq_true rfl, _, h2, ?_⟩
  rintro r s2 ⟨hR2, hk, v, rfl, hv⟩
  rw [← Nat.mul_succ] at hR2
  exact ⟨⟨rfl, by decide⟩, by omega, Nat.le_of_ble_eq_true rfl, fun _ => ⟨fun _ => ⟨by omega, rfl, rfl, hR2⟩, fun q => ⟨rfl, ib01, fun _ => ⟨by omega, rfl, rfl, hR2⟩, fun q2 => absurd ((lg_cmp_eq _ _).mpr (hv (Classical.not_not.mp q))) q2⟩⟩, fun q => absurd hk q⟩
set_option maxRecDepth 20000 in
set_option maxHeartbeats 2000000 in
theorem case_21 (hL : L ≤ 2560) (hn : 5 * n + 4 < L) (hu : u ≤ 400 + 18 * n) (h : Rl (10000 * n) s) : wp (lk (tab_lawC21 L xs)) (cE n) 150256 (fun _ _ => False) (fun _ _ => False) 90 1494 u (lp n) [] s := by
  have h' : Rl (10000 * (n + 1)) s := Rl_mono (by omega) h
  have b1 : Ib (nI (5 * n) + 1) L := ib_k hn hL (j := 1) rfl (by decide)
  have b2 : Ib (nI (5 * n) + 2) L := ib_k hn hL (j := 2) rfl (by decide)
  refine ⟨b1, b2, by omega, Nat.le_of_ble_eq_true rfl, trivial, trivial, rfl, ⟨rfl, by decide⟩, rfl, _, al_kin h', ?_⟩
  rintro r s1 ⟨kk, rfl, h2⟩
  refine ⟨b1, b2, ⟨rfl, by decide⟩, by omega, Nat.le_of_ble_eq_true rfl, _, h2, ?_⟩
  rintro r s2 ⟨hR2, hk, v, rfl, hv⟩
  exact ⟨⟨rfl, by decide⟩, by omega, Nat.le_of_ble_eq_true rfl, fun _ => ⟨fun _ => ⟨by omega, rfl, rfl, hR2⟩, fun q => ⟨rfl, ib01, fun _ => ⟨by omega, rfl, rfl, hR2⟩, fun q2 => absurd ((lg_cmp_eq _ _).mpr (hv (Classical.not_not.mp q))) q2⟩⟩, fun q => absurd hk q⟩
set_option maxRecDepth 20000 in
set_option maxHeartbeats 2000000 in
theorem case_22 (hL : L ≤ 2560) (hn : 5 * n + 4 < L) (hu : u ≤ 400 + 18 * n) (h : Rl (10000 * n) s) : wp (lk (tab_lawC22 L xs)) (cE n) 150256 (fun _ _ => False) (fun _ _ => False) 90 1562 u (lp n) [] s := by
  have h' : Rl (10000 * (n + 1)) s := Rl_mono (by omega) h
  have b1 : Ib (nI (5 * n) + 1) L := ib_k hn hL (j := 1) rfl (by decide)
  have b2 : Ib (nI (5 * n) + 2) L := ib_k hn hL (j := 2) rfl (by decide)
  refine ⟨b1, b2, by omega, Nat.le_of_ble_eq_true rfl, trivial, trivial, rfl, ⟨rfl, by decide⟩, rfl, _, al_ancestor h', ?_⟩
  rintro r s1 ⟨kk, rfl, h2⟩
  refine ⟨b1, b2, ⟨rfl, by decide⟩, by omega, Nat.le_of_ble_eq_true rfl, _, h2, ?_⟩
  rintro r s2 ⟨hR2, hk, v, rfl, hv⟩
  exact ⟨⟨rfl, by decide⟩, by omega, Nat.le_of_ble_eq_true rfl, fun _ => ⟨fun _ => ⟨by omega, rfl, rfl, hR2⟩, fun q => ⟨rfl, ib01, fun _ => ⟨by omega, rfl, rfl, hR2⟩, fun q2 => absurd ((lg_cmp_eq _ _).mpr (hv (Classical.not_not.mp q))) q2⟩⟩, fun q => absurd hk q⟩
set_option maxRecDepth 20000 in
set_option maxHeartbeats 2000000 in
theorem case_23 (hL : L ≤ 2560) (hn : 5 * n + 4 < L) (hu : u ≤ 400 + 18 * n) (h : Rl (10000 * n) s) : wp (lk (tab_lawC23 L xs)) (cE n) 150256 (fun _ _ => False) (fun _ _ => False) 90 1630 u (lp n) [] s := by
  have h' : Rl (10000 * (n + 1)) s := Rl_mono (by omega) h
  have b1 : Ib (nI (5 * n) + 1) L := ib_k hn hL (j := 1) rfl (by decide)
  refine ⟨b1, by omega, Nat.le_of_ble_eq_true rfl, trivial, trivial, rfl, ⟨rfl, by decide⟩, rfl, _, al_hindered h', ?_⟩
  rintro r s1 ⟨kk, rfl, h2⟩
  refine ⟨b1, ⟨rfl, by decide⟩, by omega, Nat.le_of_ble_eq_true rfl, _, h2, ?_⟩
  rintro r s2 ⟨hR2, hk, v, rfl, hv⟩
  exact ⟨⟨rfl, by decide⟩, by omega, Nat.le_of_ble_eq_true rfl, fun _ => ⟨fun _ => ⟨by omega, rfl, rfl, hR2⟩, fun q => ⟨rfl, ib01, fun _ => ⟨by omega, rfl, rfl, hR2⟩, fun q2 => absurd ((lg_cmp_eq _ _).mpr (hv (Classical.not_not.mp q))) q2⟩⟩, fun q => absurd hk q⟩
set_option maxRecDepth 20000 in
set_option maxHeartbeats 2000000 in
theorem case_24 (hL : L ≤ 2560) (hn : 5 * n + 4 < L) (hu : u ≤ 400 + 18 * n) (h : Rl (10000 * n) s) : wp (lk (tab_lawC24 L xs)) (cE n) 150256 (fun _ _ => False) (fun _ _ => False) 90 1686 u (lp n) [] s := by
  have h' : Rl (10000 * (n + 1)) s := Rl_mono (by omega) h
  have b1 : Ib (nI (5 * n) + 1) L := ib_k hn hL (j := 1) rfl (by decide)
  have b2 : Ib (nI (5 * n) + 2) L := ib_k hn hL (j := 2) rfl (by decide)
  refine ⟨b1, b2, by omega, Nat.le_of_ble_eq_true rfl, trivial, trivial, rfl, ⟨rfl, by decide⟩, rfl, _, al_vowOf h', ?_⟩
  rintro r s1 ⟨kk, rfl, h2⟩
  refine ⟨b1, b2, ⟨rfl, by decide⟩, by omega, Nat.le_of_ble_eq_true rfl, _, h2, ?_⟩
  rintro r s2 ⟨hR2, hk, v, rfl, hv⟩
  exact ⟨⟨rfl, by decide⟩, by omega, Nat.le_of_ble_eq_true rfl, fun _ => ⟨fun _ => ⟨by omega, rfl, rfl, hR2⟩, fun q => ⟨rfl, ib01, fun _ => ⟨by omega, rfl, rfl, hR2⟩, fun q2 => absurd ((lg_cmp_eq _ _).mpr (hv (Classical.not_not.mp q))) q2⟩⟩, fun q => absurd hk q⟩
set_option maxRecDepth 20000 in
set_option maxHeartbeats 2000000 in
theorem case_25 (hL : L ≤ 2560) (hn : 5 * n + 4 < L) (hu : u ≤ 400 + 18 * n) (h : Rl (10000 * n) s) : wp (lk (tab_lawC25 L xs)) (cE n) 150256 (fun _ _ => False) (fun _ _ => False) 90 1754 u (lp n) [] s := by
  have h' : Rl (10000 * (n + 1)) s := Rl_mono (by omega) h
  have b1 : Ib (nI (5 * n) + 1) L := ib_k hn hL (j := 1) rfl (by decide)
  have b2 : Ib (nI (5 * n) + 2) L := ib_k hn hL (j := 2) rfl (by decide)
  refine ⟨b1, b2, by omega, Nat.le_of_ble_eq_true rfl, trivial, trivial, rfl, ⟨rfl, by decide⟩, rfl, _, al_bound h', ?_⟩
  rintro r s1 ⟨kk, rfl, h2⟩
  refine ⟨b1, b2, ⟨rfl, by decide⟩, by omega, Nat.le_of_ble_eq_true rfl, _, h2, ?_⟩
  rintro r s2 ⟨hR2, hk, v, rfl, hv⟩
  exact ⟨⟨rfl, by decide⟩, by omega, Nat.le_of_ble_eq_true rfl, fun _ => ⟨fun _ => ⟨by omega, rfl, rfl, hR2⟩, fun q => ⟨rfl, ib01, fun _ => ⟨by omega, rfl, rfl, hR2⟩, fun q2 => absurd ((lg_cmp_eq _ _).mpr (hv (Classical.not_not.mp q))) q2⟩⟩, fun q => absurd hk q⟩
set_option maxRecDepth 20000 in
set_option maxHeartbeats 2000000 in
theorem case_26 (hL : L ≤ 2560) (hn : 5 * n + 4 < L) (hu : u ≤ 400 + 18 * n) (h : Rl (10000 * n) s) : wp (lk (tab_lawC26 L xs)) (cE n) 150256 (fun _ _ => False) (fun _ _ => False) 90 1822 u (lp n) [] s := by
  have h' : Rl (10000 * (n + 1)) s := Rl_mono (by omega) h
  have b1 : Ib (nI (5 * n) + 1) L := ib_k hn hL (j := 1) rfl (by decide)
  have b2 : Ib (nI (5 * n) + 2) L := ib_k hn hL (j := 2) rfl (by decide)
  refine ⟨b1, b2, by omega, Nat.le_of_ble_eq_true rfl, trivial, trivial, rfl, ⟨rfl, by decide⟩, rfl, _, al_hasCause h', ?_⟩
  rintro r s1 ⟨kk, rfl, h2⟩
  refine ⟨b1, b2, ⟨rfl, by decide⟩, by omega, Nat.le_of_ble_eq_true rfl, _, h2, ?_⟩
  rintro r s2 ⟨hR2, hk, v, rfl, hv⟩
  exact ⟨⟨rfl, by decide⟩, by omega, Nat.le_of_ble_eq_true rfl, fun _ => ⟨fun _ => ⟨by omega, rfl, rfl, hR2⟩, fun q => ⟨rfl, ib01, fun q1 => ⟨fun _ => ⟨by omega, rfl, rfl, hR2⟩, fun q2 => absurd ((lg_cmp_eq _ _).mpr ((hv (Classical.not_not.mp q)).elim (fun z => z.2) (fun z => absurd (z.1.symm.trans q1) (by decide)))) q2⟩, fun q1 => ⟨fun _ => ⟨by omega, rfl, rfl, hR2⟩, fun q2 => absurd ((lg_cmp_eq _ _).mpr ((hv (Classical.not_not.mp q)).elim (fun z => absurd z.1 q1) (fun z => z.2))) q2⟩⟩⟩, fun q => absurd hk q⟩
set_option maxRecDepth 20000 in
set_option maxHeartbeats 2000000 in
theorem case_27 (hL : L ≤ 2560) (hn : 5 * n + 4 < L) (hu : u ≤ 400 + 18 * n) (h : Rl (10000 * n) s) : wp (lk (tab_lawC27 L xs)) (cE n) 150256 (fun _ _ => False) (fun _ _ => False) 90 1897 u (lp n) [] s := by
  have h' : Rl (10000 * (n + 1)) s := Rl_mono (by omega) h
  have b1 : Ib (nI (5 * n) + 1) L := ib_k hn hL (j := 1) rfl (by decide)
  have b2 : Ib (nI (5 * n) + 2) L := ib_k hn hL (j := 2) rfl (by decide)
  refine ⟨b1, b2, by omega, Nat.le_of_ble_eq_true rfl, trivial, trivial, rfl, ⟨rfl, by decide⟩, rfl, _, al_causeOf h', ?_⟩
  rintro r s1 ⟨kk, rfl, h2⟩
  refine ⟨b1, b2, ⟨rfl, by decide⟩, by omega, Nat.le_of_ble_eq_true rfl, _, h2, ?_⟩
  rintro r s2 ⟨hR2, hk, v, rfl, hv⟩
  exact ⟨⟨rfl, by decide⟩, by omega, Nat.le_of_ble_eq_true rfl, fun _ => ⟨fun _ => ⟨by omega, rfl, rfl, hR2⟩, fun q => ⟨rfl, ib01, fun _ => ⟨by omega, rfl, rfl, hR2⟩, fun q2 => absurd ((lg_cmp_eq _ _).mpr (hv (Classical.not_not.mp q))) q2⟩⟩, fun q => absurd hk q⟩
set_option maxRecDepth 20000 in
set_option maxHeartbeats 2000000 in
theorem case_28 (hL : L ≤ 2560) (hn : 5 * n + 4 < L) (hu : u ≤ 400 + 18 * n) (h : Rl (10000 * n) s) : wp (lk (tab_lawC28 L xs)) (cE n) 150256 (fun _ _ => False) (fun _ _ => False) 90 1965 u (lp n) [] s := by
  have h' : Rl (10000 * (n + 1)) s := Rl_mono (by omega) h
  have b1 : Ib (nI (5 * n) + 1) L := ib_k hn hL (j := 1) rfl (by decide)
  have b2 : Ib (nI (5 * n) + 2) L := ib_k hn hL (j := 2) rfl (by decide)
  have b3 : Ib (nI (5 * n) + 3) L := ib_k hn hL (j := 3) rfl (by decide)
  refine ⟨b1, b2, b3, by omega, Nat.le_of_ble_eq_true rfl, trivial, trivial, rfl, ⟨rfl, by decide⟩, rfl, _, al_state h', ?_⟩
  rintro r s1 ⟨kk, rfl, h2⟩
  refine ⟨b1, b2, b3, ⟨rfl, by decide⟩, by omega, Nat.le_of_ble_eq_true rfl, _, h2, ?_⟩
  rintro r s2 ⟨hR2, hk, v, rfl, hv⟩
  exact ⟨⟨rfl, by decide⟩, by omega, Nat.le_of_ble_eq_true rfl, fun _ => ⟨fun _ => ⟨by omega, rfl, rfl, hR2⟩, fun q => ⟨rfl, ib01, fun _ => ⟨by omega, rfl, rfl, hR2⟩, fun q2 => absurd ((lg_cmp_eq _ _).mpr (hv (Classical.not_not.mp q))) q2⟩⟩, fun q => absurd hk q⟩
end Cas

