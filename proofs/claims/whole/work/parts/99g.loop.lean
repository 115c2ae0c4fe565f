/-! the law's loop: what its cases come to -/
/-- the loop's end: one call more is gone -/
def LEn (n : Nat) : Nat → LC → List AV → Sg → Prop := fun u L st s => u ≤ 400 + 18 * (n + 1) ∧ L.take 5 = lp n ∧ st = [] ∧ Rl (10000 * (n + 1)) s
def cE (n : Nat) (pc : Nat) : Option (Nat → LC → List AV → Sg → Prop) := bif Nat.beq pc 2045 then some (LEn n) else none
section Cas
variable {L n u : Nat} {xs : Nat → Int32} {s : Sg}
theorem ib_k (hn : 5 * n + 4 < L) (hL : L ≤ 2560) {k : Int32} {j : Nat} (hk : k = nI j) (hj : j ≤ 4) : Ib (nI (5 * n) + k) L := by
  rw [hk, nI_add]
  exact nIb (by omega) (by omega)
set_option maxRecDepth 20000 in
set_option maxHeartbeats 2000000 in
theorem case_0 (hL : L ≤ 2560) (hn : 5 * n + 4 < L) (hu : u ≤ 400 + 18 * n) (h : Rl (10000 * n) s) : wp (lk (tab_lawC0 L xs)) (cE n) 150256 (fun _ _ => False) (fun _ _ => False) 90 168 u (lp n) [] s := by
  have h' : Rl (10000 * (n + 1)) s := Rl_mono (by omega) h
  have hD : 10000 * (n + 1) ≤ 10000000 := by omega
  have b1 : Ib (nI (5 * n) + 1) L := ib_k hn hL (j := 1) rfl (by decide)
  have b2 : Ib (nI (5 * n) + 2) L := ib_k hn hL (j := 2) rfl (by decide)
  have b3 : Ib (nI (5 * n) + 3) L := ib_k hn hL (j := 3) rfl (by decide)
  have b4 : Ib (nI (5 * n) + 4) L := ib_k hn hL (j := 4) rfl (by decide)
  refine ⟨b1, b2, b3, b4, by omega, Nat.le_of_ble_eq_true rfl, trivial, trivial, rfl, ⟨rfl, by decide⟩, rfl, _, al_person hD h', ?_⟩
  rintro r s1 ⟨kk, rfl, h2⟩
  refine ⟨b1, b2, b3, b4, ⟨rfl, by decide⟩, by omega, Nat.le_of_ble_eq_true rfl, _, h2, ?_⟩
  rintro r s2 ⟨hR2, hk, v, rfl, hv⟩
  exact ⟨⟨rfl, by decide⟩, by omega, Nat.le_of_ble_eq_true rfl, fun _ => ⟨fun _ => ⟨by omega, rfl, rfl, hR2⟩, fun q => ⟨rfl, ib01, fun _ => ⟨by omega, rfl, rfl, hR2⟩, fun q2 => absurd ((lg_cmp_eq _ _).mpr (hv (Classical.not_not.mp q))) q2⟩⟩, fun q => absurd hk q⟩
set_option maxRecDepth 20000 in
set_option maxHeartbeats 2000000 in
theorem case_1 (hL : L ≤ 2560) (hn : 5 * n + 4 < L) (hu : u ≤ 400 + 18 * n) (h : Rl (10000 * n) s) : wp (lk (tab_lawC1 L xs)) (cE n) 150256 (fun _ _ => False) (fun _ _ => False) 90 260 u (lp n) [] s := by
  have h' : Rl (10000 * (n + 1)) s := Rl_mono (by omega) h
  have b1 : Ib (nI (5 * n) + 1) L := ib_k hn hL (j := 1) rfl (by decide)
  have b2 : Ib (nI (5 * n) + 2) L := ib_k hn hL (j := 2) rfl (by decide)
  refine ⟨b1, b2, by omega, Nat.le_of_ble_eq_true rfl, trivial, trivial, rfl, ⟨rfl, by decide⟩, rfl, _, al_rite h', ?_⟩
  rintro r s1 ⟨kk, rfl, h2⟩
  refine ⟨b1, b2, ⟨rfl, by decide⟩, by omega, Nat.le_of_ble_eq_true rfl, _, h2, ?_⟩
  rintro r s2 ⟨hR2, hk, v, rfl, hv⟩
  exact ⟨⟨rfl, by decide⟩, by omega, Nat.le_of_ble_eq_true rfl, fun _ => ⟨fun _ => ⟨by omega, rfl, rfl, hR2⟩, fun q => ⟨rfl, ib01, fun _ => ⟨by omega, rfl, rfl, hR2⟩, fun q2 => absurd ((lg_cmp_eq _ _).mpr (hv (Classical.not_not.mp q))) q2⟩⟩, fun q => absurd hk q⟩
set_option maxRecDepth 20000 in
set_option maxHeartbeats 2000000 in
theorem case_2 (hL : L ≤ 2560) (hn : 5 * n + 4 < L) (hu : u ≤ 400 + 18 * n) (h : Rl (10000 * n) s) : wp (lk (tab_lawC2 L xs)) (cE n) 150256 (fun _ _ => False) (fun _ _ => False) 90 328 u (lp n) [] s := by
  have h' : Rl (10000 * (n + 1)) s := Rl_mono (by omega) h
  have b1 : Ib (nI (5 * n) + 1) L := ib_k hn hL (j := 1) rfl (by decide)
  have b2 : Ib (nI (5 * n) + 2) L := ib_k hn hL (j := 2) rfl (by decide)
  refine ⟨b1, b2, by omega, Nat.le_of_ble_eq_true rfl, trivial, trivial, rfl, ⟨rfl, by decide⟩, rfl, _, al_home h', ?_⟩
  rintro r s1 ⟨kk, rfl, h2⟩
  refine ⟨b1, b2, ⟨rfl, by decide⟩, by omega, Nat.le_of_ble_eq_true rfl, _, h2, ?_⟩
  rintro r s2 ⟨hR2, hk, v, rfl, hv⟩
  exact ⟨⟨rfl, by decide⟩, by omega, Nat.le_of_ble_eq_true rfl, fun _ => ⟨fun _ => ⟨by omega, rfl, rfl, hR2⟩, fun q => ⟨rfl, ib01, fun _ => ⟨by omega, rfl, rfl, hR2⟩, fun q2 => absurd ((lg_cmp_eq _ _).mpr (hv (Classical.not_not.mp q))) q2⟩⟩, fun q => absurd hk q⟩
set_option maxRecDepth 20000 in
set_option maxHeartbeats 2000000 in
theorem case_3 (hL : L ≤ 2560) (hn : 5 * n + 4 < L) (hu : u ≤ 400 + 18 * n) (h : Rl (10000 * n) s) : wp (lk (tab_lawC3 L xs)) (cE n) 150256 (fun _ _ => False) (fun _ _ => False) 90 396 u (lp n) [] s := by
  have h' : Rl (10000 * (n + 1)) s := Rl_mono (by omega) h
  have b1 : Ib (nI (5 * n) + 1) L := ib_k hn hL (j := 1) rfl (by decide)
  refine ⟨b1, by omega, Nat.le_of_ble_eq_true rfl, trivial, trivial, rfl, ⟨rfl, by decide⟩, rfl, _, al_order h', ?_⟩
  rintro r s1 ⟨kk, rfl, h2⟩
  refine ⟨b1, ⟨rfl, by decide⟩, by omega, Nat.le_of_ble_eq_true rfl, _, h2, ?_⟩
  rintro r s2 ⟨hR2, hk, rfl⟩
  exact ⟨⟨rfl, by decide⟩, by omega, Nat.le_of_ble_eq_true rfl, fun _ => ⟨by omega, rfl, rfl, hR2⟩, fun q => absurd hk q⟩
set_option maxRecDepth 20000 in
set_option maxHeartbeats 2000000 in
theorem case_4 (hL : L ≤ 2560) (hn : 5 * n + 4 < L) (hu : u ≤ 400 + 18 * n) (h : Rl (10000 * n) s) : wp (lk (tab_lawC4 L xs)) (cE n) 150256 (fun _ _ => False) (fun _ _ => False) 90 432 u (lp n) [] s := by
  have h' : Rl (10000 * (n + 1)) s := Rl_mono (by omega) h
  have b1 : Ib (nI (5 * n) + 1) L := ib_k hn hL (j := 1) rfl (by decide)
  refine ⟨b1, by omega, Nat.le_of_ble_eq_true rfl, trivial, trivial, rfl, ⟨rfl, by decide⟩, rfl, _, al_ban h', ?_⟩
  rintro r s1 ⟨kk, rfl, h2⟩
  refine ⟨b1, ⟨rfl, by decide⟩, by omega, Nat.le_of_ble_eq_true rfl, _, h2, ?_⟩
  rintro r s2 ⟨hR2, hk, v, rfl, hv⟩
  exact ⟨⟨rfl, by decide⟩, by omega, Nat.le_of_ble_eq_true rfl, fun _ => ⟨fun _ => ⟨by omega, rfl, rfl, hR2⟩, fun q => ⟨rfl, ib01, fun q1 => ⟨fun _ => ⟨by omega, rfl, rfl, hR2⟩, fun q2 => absurd ((lg_cmp_eq _ _).mpr ((hv (Classical.not_not.mp q)).elim (fun z => z.2) (fun z => absurd (z.1.symm.trans q1) (by decide)))) q2⟩, fun q1 => ⟨fun _ => ⟨by omega, rfl, rfl, hR2⟩, fun q2 => absurd ((lg_cmp_eq _ _).mpr ((hv (Classical.not_not.mp q)).elim (fun z => absurd z.1 q1) (fun z => z.2))) q2⟩⟩⟩, fun q => absurd hk q⟩
set_option maxRecDepth 20000 in
set_option maxHeartbeats 2000000 in
theorem case_5 (hL : L ≤ 2560) (hn : 5 * n + 4 < L) (hu : u ≤ 400 + 18 * n) (h : Rl (10000 * n) s) : wp (lk (tab_lawC5 L xs)) (cE n) 150256 (fun _ _ => False) (fun _ _ => False) 90 495 u (lp n) [] s := by
  have h' : Rl (10000 * (n + 1)) s := Rl_mono (by omega) h
  have b1 : Ib (nI (5 * n) + 1) L := ib_k hn hL (j := 1) rfl (by decide)
  refine ⟨b1, by omega, Nat.le_of_ble_eq_true rfl, trivial, trivial, rfl, ⟨rfl, by decide⟩, rfl, _, al_die h', ?_⟩
  rintro r s1 ⟨kk, rfl, h2⟩
  refine ⟨b1, ⟨rfl, by decide⟩, by omega, Nat.le_of_ble_eq_true rfl, _, h2, ?_⟩
  rintro r s2 ⟨hR2, hk, v, rfl, hv⟩
  exact ⟨⟨rfl, by decide⟩, by omega, Nat.le_of_ble_eq_true rfl, fun _ => ⟨fun _ => ⟨by omega, rfl, rfl, hR2⟩, fun q => ⟨rfl, ib01, fun _ => ⟨by omega, rfl, rfl, hR2⟩, fun q2 => absurd ((lg_cmp_eq _ _).mpr (hv (Classical.not_not.mp q))) q2⟩⟩, fun q => absurd hk q⟩
set_option maxRecDepth 20000 in
set_option maxHeartbeats 2000000 in
theorem case_6 (hL : L ≤ 2560) (hn : 5 * n + 4 < L) (hu : u ≤ 400 + 18 * n) (h : Rl (10000 * n) s) : wp (lk (tab_lawC6 L xs)) (cE n) 150256 (fun _ _ => False) (fun _ _ => False) 90 551 u (lp n) [] s := by
  have h' : Rl (10000 * (n + 1)) s := Rl_mono (by omega) h
  have hD : 10000 * (n + 1) ≤ 10000000 := by omega
  have b1 : Ib (nI (5 * n) + 1) L := ib_k hn hL (j := 1) rfl (by decide)
  have b2 : Ib (nI (5 * n) + 2) L := ib_k hn hL (j := 2) rfl (by decide)
  have b3 : Ib (nI (5 * n) + 3) L := ib_k hn hL (j := 3) rfl (by decide)
  refine ⟨b1, b2, b3, by omega, Nat.le_of_ble_eq_true rfl, trivial, trivial, rfl, ⟨rfl, by decide⟩, rfl, _, al_dispense hD h', ?_⟩
  rintro r s1 ⟨kk, rfl, h2⟩
  refine ⟨b1, b2, b3, ⟨rfl, by decide⟩, by omega, Nat.le_of_ble_eq_true rfl, _, h2, ?_⟩
  rintro r s2 ⟨hR2, hk, rfl⟩
  exact ⟨⟨rfl, by decide⟩, by omega, Nat.le_of_ble_eq_true rfl, fun _ => ⟨by omega, rfl, rfl, hR2⟩, fun q => absurd hk q⟩
set_option maxRecDepth 20000 in
set_option maxHeartbeats 2000000 in
theorem case_7 (hL : L ≤ 2560) (hn : 5 * n + 4 < L) (hu : u ≤ 400 + 18 * n) (h : Rl (10000 * n) s) : wp (lk (tab_lawC7 L xs)) (cE n) 150256 (fun _ _ => False) (fun _ _ => False) 90 611 u (lp n) [] s := by
  have h' : Rl (10000 * (n + 1)) s := Rl_mono (by omega) h
  have b1 : Ib (nI (5 * n) + 1) L := ib_k hn hL (j := 1) rfl (by decide)
  have b2 : Ib (nI (5 * n) + 2) L := ib_k hn hL (j := 2) rfl (by decide)
  have b3 : Ib (nI (5 * n) + 3) L := ib_k hn hL (j := 3) rfl (by decide)
  refine ⟨b1, b2, b3, by omega, Nat.le_of_ble_eq_true rfl, trivial, trivial, rfl, ⟨rfl, by decide⟩, rfl, _, al_faculty h', ?_⟩
  rintro r s1 ⟨kk, rfl, h2⟩
  refine ⟨b1, b2, b3, ⟨rfl, by decide⟩, by omega, Nat.le_of_ble_eq_true rfl, _, h2, ?_⟩
  rintro r s2 ⟨hR2, hk, rfl⟩
  exact ⟨⟨rfl, by decide⟩, by omega, Nat.le_of_ble_eq_true rfl, fun _ => ⟨by omega, rfl, rfl, hR2⟩, fun q => absurd hk q⟩
set_option maxRecDepth 20000 in
set_option maxHeartbeats 2000000 in
theorem case_8 (hL : L ≤ 2560) (hn : 5 * n + 4 < L) (hu : u ≤ 400 + 18 * n) (h : Rl (10000 * n) s) : wp (lk (tab_lawC8 L xs)) (cE n) 150256 (fun _ _ => False) (fun _ _ => False) 90 671 u (lp n) [] s := by
  have h' : Rl (10000 * (n + 1)) s := Rl_mono (by omega) h
  have b1 : Ib (nI (5 * n) + 1) L := ib_k hn hL (j := 1) rfl (by decide)
  refine ⟨b1, by omega, Nat.le_of_ble_eq_true rfl, trivial, trivial, rfl, ⟨rfl, by decide⟩, rfl, _, al_error h', ?_⟩
  rintro r s1 ⟨kk, rfl, h2⟩
  refine ⟨b1, ⟨rfl, by decide⟩, by omega, Nat.le_of_ble_eq_true rfl, _, h2, ?_⟩
  rintro r s2 ⟨hR2, hk, v, rfl, hv⟩
  exact ⟨⟨rfl, by decide⟩, by omega, Nat.le_of_ble_eq_true rfl, fun _ => ⟨fun _ => ⟨by omega, rfl, rfl, hR2⟩, fun q => ⟨rfl, ib01, fun q1 => ⟨fun _ => ⟨by omega, rfl, rfl, hR2⟩, fun q2 => absurd ((lg_cmp_eq _ _).mpr ((hv (Classical.not_not.mp q)).elim (fun z => z.2) (fun z => absurd (z.1.symm.trans q1) (by decide)))) q2⟩, fun q1 => ⟨fun _ => ⟨by omega, rfl, rfl, hR2⟩, fun q2 => absurd ((lg_cmp_eq _ _).mpr ((hv (Classical.not_not.mp q)).elim (fun z => absurd z.1 q1) (fun z => z.2))) q2⟩⟩⟩, fun q => absurd hk q⟩
set_option maxRecDepth 20000 in
set_option maxHeartbeats 2000000 in
theorem case_9 (hL : L ≤ 2560) (hn : 5 * n + 4 < L) (hu : u ≤ 400 + 18 * n) (h : Rl (10000 * n) s) : wp (lk (tab_lawC9 L xs)) (cE n) 150256 (fun _ _ => False) (fun _ _ => False) 90 734 u (lp n) [] s := by
  have h' : Rl (10000 * (n + 1)) s := Rl_mono (by omega) h
  have hD : 10000 * (n + 1) ≤ 10000000 := by omega
  have b1 : Ib (nI (5 * n) + 1) L := ib_k hn hL (j := 1) rfl (by decide)
  have b2 : Ib (nI (5 * n) + 2) L := ib_k hn hL (j := 2) rfl (by decide)
  have b3 : Ib (nI (5 * n) + 3) L := ib_k hn hL (j := 3) rfl (by decide)
  have b4 : Ib (nI (5 * n) + 4) L := ib_k hn hL (j := 4) rfl (by decide)
  refine ⟨b1, b2, b3, b4, by omega, Nat.le_of_ble_eq_true rfl, trivial, trivial, rfl, ⟨rfl, by decide⟩, rfl, _, al_vow hD h', ?_⟩
  rintro r s1 ⟨kk, rfl, h2⟩
  refine ⟨b1, b2, b3, b4, ⟨rfl, by decide⟩, by omega, Nat.le_of_ble_eq_true rfl, _, h2, ?_⟩
  rintro r s2 ⟨hR2, hk, v, rfl, hv⟩
  exact ⟨⟨rfl, by decide⟩, by omega, Nat.le_of_ble_eq_true rfl, fun _ => ⟨fun _ => ⟨by omega, rfl, rfl, hR2⟩, fun q => ⟨rfl, ib01, fun _ => ⟨by omega, rfl, rfl, hR2⟩, fun q2 => absurd ((lg_cmp_eq _ _).mpr (hv (Classical.not_not.mp q))) q2⟩⟩, fun q => absurd hk q⟩
end Cas

