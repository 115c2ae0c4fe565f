/-! the law's loop: cases 10 to 19 -/
section Cas
variable {L n u : Nat} {xs : Nat → Int32} {s : Sg}
set_option maxRecDepth 20000 in
set_option maxHeartbeats 2000000 in
theorem case_10 (hL : L ≤ 2560) (hn : 5 * n + 4 < L) (hu : u ≤ 400 + 18 * n) (h : Rl (10000 * n) s) : wp (lk (tab_lawC10 L xs)) (cE n) 150256 (fun _ _ => False) (fun _ _ => False) 90 826 u (lp n) [] s := by
  have h' : Rl (10000 * (n + 1)) s := Rl_mono (by omega) h
  have b1 : Ib (nI (5 * n) + 1) L := ib_k hn hL (j := 1) rfl (by decide)
  refine ⟨b1, by omega, Nat.le_of_ble_eq_true rfl, trivial, trivial, rfl, ⟨rfl, by decide⟩, rfl, _, al_heal h', ?_⟩
  rintro r s1 ⟨kk, rfl, h2⟩
  refine ⟨b1, ⟨rfl, by decide⟩, by omega, Nat.le_of_ble_eq_true rfl, _, h2, ?_⟩
  rintro r s2 ⟨hR2, hk, rfl⟩
  exact ⟨⟨rfl, by decide⟩, by omega, Nat.le_of_ble_eq_true rfl, fun _ => ⟨by omega, rfl, rfl, hR2⟩, fun q => absurd hk q⟩
set_option maxRecDepth 20000 in
set_option maxHeartbeats 2000000 in
theorem case_11 (hL : L ≤ 2560) (hn : 5 * n + 4 < L) (hu : u ≤ 400 + 18 * n) (h : Rl (10000 * n) s) : wp (lk (tab_lawC11 L xs)) (cE n) 150256 (fun _ _ => False) (fun _ _ => False) 90 862 u (lp n) [] s := by
  have h' : Rl (10000 * (n + 1)) s := Rl_mono (by omega) h
  have b1 : Ib (nI (5 * n) + 1) L := ib_k hn hL (j := 1) rfl (by decide)
  refine ⟨b1, by omega, Nat.le_of_ble_eq_true rfl, trivial, trivial, rfl, ⟨rfl, by decide⟩, rfl, _, al_grace h', ?_⟩
  rintro r s1 ⟨kk, rfl, h2⟩
  refine ⟨b1, ⟨rfl, by decide⟩, by omega, Nat.le_of_ble_eq_true rfl, _, h2, ?_⟩
  rintro r s2 ⟨hR2, hk, rfl⟩
  exact ⟨⟨rfl, by decide⟩, by omega, Nat.le_of_ble_eq_true rfl, fun _ => ⟨by omega, rfl, rfl, hR2⟩, fun q => absurd hk q⟩
set_option maxRecDepth 20000 in
set_option maxHeartbeats 2000000 in
theorem case_12 (hL : L ≤ 2560) (hn : 5 * n + 4 < L) (hu : u ≤ 400 + 18 * n) (h : Rl (10000 * n) s) : wp (lk (tab_lawC12 L xs)) (cE n) 150256 (fun _ _ => False) (fun _ _ => False) 90 898 u (lp n) [] s := by
  have h' : Rl (10000 * (n + 1)) s := Rl_mono (by omega) h
  have b1 : Ib (nI (5 * n) + 1) L := ib_k hn hL (j := 1) rfl (by decide)
  refine ⟨b1, by omega, Nat.le_of_ble_eq_true rfl, trivial, trivial, rfl, ⟨rfl, by decide⟩, rfl, _, al_documents h', ?_⟩
  rintro r s1 ⟨kk, rfl, h2⟩
  refine ⟨b1, ⟨rfl, by decide⟩, by omega, Nat.le_of_ble_eq_true rfl, _, h2, ?_⟩
  rintro r s2 ⟨hR2, hk, v, rfl, hv⟩
  exact ⟨⟨rfl, by decide⟩, by omega, Nat.le_of_ble_eq_true rfl, fun _ => ⟨fun _ => ⟨by omega, rfl, rfl, hR2⟩, fun q => ⟨rfl, ib01, fun _ => ⟨by omega, rfl, rfl, hR2⟩, fun q2 => absurd ((lg_cmp_eq _ _).mpr (hv (Classical.not_not.mp q))) q2⟩⟩, fun q => absurd hk q⟩
set_option maxRecDepth 20000 in
set_option maxHeartbeats 2000000 in
theorem case_13 (hL : L ≤ 2560) (hn : 5 * n + 4 < L) (hu : u ≤ 400 + 18 * n) (h : Rl (10000 * n) s) : wp (lk (tab_lawC13 L xs)) (cE n) 150256 (fun _ _ => False) (fun _ _ => False) 90 954 u (lp n) [] s := by
  have h' : Rl (10000 * (n + 1)) s := Rl_mono (by omega) h
  have b1 : Ib (nI (5 * n) + 1) L := ib_k hn hL (j := 1) rfl (by decide)
  have b2 : Ib (nI (5 * n) + 2) L := ib_k hn hL (j := 2) rfl (by decide)
  have b3 : Ib (nI (5 * n) + 3) L := ib_k hn hL (j := 3) rfl (by decide)
  have b4 : Ib (nI (5 * n) + 4) L := ib_k hn hL (j := 4) rfl (by decide)
  refine ⟨b1, b2, b3, b4, fun q0 => ?_, fun q0 => ?_⟩
  · refine ⟨by omega, Nat.le_of_ble_eq_true rfl, trivial, trivial, rfl, ⟨rfl, by decide⟩, rfl, _, al_cause (b := 0) (Or.inl rfl) h', ?_⟩
    rintro r s1 ⟨kk, rfl, h2⟩
    refine ⟨b1, b2, b3, b4, fun _ => ⟨⟨rfl, by decide⟩, by omega, Nat.le_of_ble_eq_true rfl, _, h2, ?_⟩, fun q1 => absurd q0 q1⟩
    rintro r s2 ⟨hR2, hk, v, rfl, hv⟩
    exact ⟨⟨rfl, by decide⟩, by omega, Nat.le_of_ble_eq_true rfl, fun _ => ⟨fun _ => ⟨by omega, rfl, rfl, hR2⟩, fun q => ⟨rfl, ib01, fun _ => ⟨by omega, rfl, rfl, hR2⟩, fun q2 => absurd ((lg_cmp_eq _ _).mpr (hv (Classical.not_not.mp q))) q2⟩⟩, fun q => absurd hk q⟩
  · refine ⟨by omega, Nat.le_of_ble_eq_true rfl, trivial, trivial, rfl, ⟨rfl, by decide⟩, rfl, _, al_cause (b := 1) (Or.inr rfl) h', ?_⟩
    rintro r s1 ⟨kk, rfl, h2⟩
    refine ⟨b1, b2, b3, b4, fun q1 => absurd q1 q0, fun _ => ⟨⟨rfl, by decide⟩, by omega, Nat.le_of_ble_eq_true rfl, _, h2, ?_⟩⟩
    rintro r s2 ⟨hR2, hk, v, rfl, hv⟩
    exact ⟨⟨rfl, by decide⟩, by omega, Nat.le_of_ble_eq_true rfl, fun _ => ⟨fun _ => ⟨by omega, rfl, rfl, hR2⟩, fun q => ⟨rfl, ib01, fun _ => ⟨by omega, rfl, rfl, hR2⟩, fun q2 => absurd ((lg_cmp_eq _ _).mpr (hv (Classical.not_not.mp q))) q2⟩⟩, fun q => absurd hk q⟩
set_option maxRecDepth 20000 in
set_option maxHeartbeats 2000000 in
theorem case_14 (hL : L ≤ 2560) (hn : 5 * n + 4 < L) (hu : u ≤ 400 + 18 * n) (h : Rl (10000 * n) s) : wp (lk (tab_lawC14 L xs)) (cE n) 150256 (fun _ _ => False) (fun _ _ => False) 90 1062 u (lp n) [] s := by
  have h' : Rl (10000 * (n + 1)) s := Rl_mono (by omega) h
  have b1 : Ib (nI (5 * n) + 1) L := ib_k hn hL (j := 1) rfl (by decide)
  have b2 : Ib (nI (5 * n) + 2) L := ib_k hn hL (j := 2) rfl (by decide)
  refine ⟨b1, b2, by omega, Nat.le_of_ble_eq_true rfl, trivial, trivial, rfl, ⟨rfl, by decide⟩, rfl, _, al_doubt h', ?_⟩
  rintro r s1 ⟨kk, rfl, h2⟩
  refine ⟨b1, b2, ⟨rfl, by decide⟩, by omega, Nat.le_of_ble_eq_true rfl, _, h2, ?_⟩
  rintro r s2 ⟨hR2, hk, v, rfl, hv⟩
  exact ⟨⟨rfl, by decide⟩, by omega, Nat.le_of_ble_eq_true rfl, fun _ => ⟨fun _ => ⟨by omega, rfl, rfl, hR2⟩, fun q => ⟨rfl, ib01, fun _ => ⟨by omega, rfl, rfl, hR2⟩, fun q2 => absurd ((lg_cmp_eq _ _).mpr (hv (Classical.not_not.mp q))) q2⟩⟩, fun q => absurd hk q⟩
set_option maxRecDepth 20000 in
set_option maxHeartbeats 2000000 in
theorem case_15 (hL : L ≤ 2560) (hn : 5 * n + 4 < L) (hu : u ≤ 400 + 18 * n) (h : Rl (10000 * n) s) : wp (lk (tab_lawC15 L xs)) (cE n) 150256 (fun _ _ => False) (fun _ _ => False) 90 1130 u (lp n) [] s := by
  have h' : Rl (10000 * (n + 1)) s := Rl_mono (by omega) h
  have b1 : Ib (nI (5 * n) + 1) L := ib_k hn hL (j := 1) rfl (by decide)
  have b2 : Ib (nI (5 * n) + 2) L := ib_k hn hL (j := 2) rfl (by decide)
  have b3 : Ib (nI (5 * n) + 3) L := ib_k hn hL (j := 3) rfl (by decide)
  refine ⟨b1, b2, b3, by omega, Nat.le_of_ble_eq_true rfl, trivial, trivial, rfl, ⟨rfl, by decide⟩, rfl, _, al_proof h', ?_⟩
  rintro r s1 ⟨kk, rfl, h2⟩
  refine ⟨b1, b2, b3, ⟨rfl, by decide⟩, by omega, Nat.le_of_ble_eq_true rfl, _, h2, ?_⟩
  rintro r s2 ⟨hR2, hk, v, rfl, hv⟩
  exact ⟨⟨rfl, by decide⟩, by omega, Nat.le_of_ble_eq_true rfl, fun _ => ⟨fun _ => ⟨by omega, rfl, rfl, hR2⟩, fun q => ⟨rfl, ib01, fun _ => ⟨by omega, rfl, rfl, hR2⟩, fun q2 => absurd ((lg_cmp_eq _ _).mpr (hv (Classical.not_not.mp q))) q2⟩⟩, fun q => absurd hk q⟩
set_option maxRecDepth 20000 in
set_option maxHeartbeats 2000000 in
theorem case_16 (hL : L ≤ 2560) (hn : 5 * n + 4 < L) (hu : u ≤ 400 + 18 * n) (h : Rl (10000 * n) s) : wp (lk (tab_lawC16 L xs)) (cE n) 150256 (fun _ _ => False) (fun _ _ => False) 90 1210 u (lp n) [] s := by
  have h' : Rl (10000 * (n + 1)) s := Rl_mono (by omega) h
  have b1 : Ib (nI (5 * n) + 1) L := ib_k hn hL (j := 1) rfl (by decide)
  refine ⟨b1, by omega, Nat.le_of_ble_eq_true rfl, trivial, trivial, rfl, ⟨rfl, by decide⟩, rfl, _, al_publish h', ?_⟩
  rintro r s1 ⟨kk, rfl, h2⟩
  refine ⟨b1, ⟨rfl, by decide⟩, by omega, Nat.le_of_ble_eq_true rfl, _, h2, ?_⟩
  rintro r s2 ⟨hR2, hk, v, rfl, hv⟩
  exact ⟨⟨rfl, by decide⟩, by omega, Nat.le_of_ble_eq_true rfl, fun _ => ⟨fun _ => ⟨by omega, rfl, rfl, hR2⟩, fun q => ⟨rfl, ib01, fun _ => ⟨by omega, rfl, rfl, hR2⟩, fun q2 => absurd ((lg_cmp_eq _ _).mpr (hv (Classical.not_not.mp q))) q2⟩⟩, fun q => absurd hk q⟩
set_option maxRecDepth 20000 in
set_option maxHeartbeats 2000000 in
theorem case_17 (hL : L ≤ 2560) (hn : 5 * n + 4 < L) (hu : u ≤ 400 + 18 * n) (h : Rl (10000 * n) s) : wp (lk (tab_lawC17 L xs)) (cE n) 150256 (fun _ _ => False) (fun _ _ => False) 90 1266 u (lp n) [] s := by
  have h' : Rl (10000 * (n + 1)) s := Rl_mono (by omega) h
  have b1 : Ib (nI (5 * n) + 1) L := ib_k hn hL (j := 1) rfl (by decide)
  have b2 : Ib (nI (5 * n) + 2) L := ib_k hn hL (j := 2) rfl (by decide)
  have b3 : Ib (nI (5 * n) + 3) L := ib_k hn hL (j := 3) rfl (by decide)
  refine ⟨b1, b2, b3, by omega, Nat.le_of_ble_eq_true rfl, trivial, trivial, rfl, ⟨rfl, by decide⟩, rfl, _, al_vote h', ?_⟩
  rintro r s1 ⟨kk, rfl, h2⟩
  refine ⟨b1, b2, b3, ⟨rfl, by decide⟩, by omega, Nat.le_of_ble_eq_true rfl, _, h2, ?_⟩
  rintro r s2 ⟨hR2, hk, v, rfl, hv⟩
  exact ⟨⟨rfl, by decide⟩, by omega, Nat.le_of_ble_eq_true rfl, fun _ => ⟨fun _ => ⟨by omega, rfl, rfl, hR2⟩, fun q => ⟨rfl, ib01, fun _ => ⟨by omega, rfl, rfl, hR2⟩, fun q2 => absurd ((lg_cmp_eq _ _).mpr (hv (Classical.not_not.mp q))) q2⟩⟩, fun q => absurd hk q⟩
set_option maxRecDepth 20000 in
set_option maxHeartbeats 2000000 in
theorem case_18 (hL : L ≤ 2560) (hn : 5 * n + 4 < L) (hu : u ≤ 400 + 18 * n) (h : Rl (10000 * n) s) : wp (lk (tab_lawC18 L xs)) (cE n) 150256 (fun _ _ => False) (fun _ _ => False) 90 1346 u (lp n) [] s := by
  have h' : Rl (10000 * (n + 1)) s := Rl_mono (by omega) h
  have b1 : Ib (nI (5 * n) + 1) L := ib_k hn hL (j := 1) rfl (by decide)
  refine ⟨b1, by omega, Nat.le_of_ble_eq_true rfl, trivial, trivial, rfl, ⟨rfl, by decide⟩, rfl, _, al_sentence h', ?_⟩
  rintro r s1 ⟨kk, rfl, h2⟩
  refine ⟨b1, ⟨rfl, by decide⟩, by omega, Nat.le_of_ble_eq_true rfl, _, h2, ?_⟩
  rintro r s2 ⟨hR2, hk, v, rfl, hv⟩
  exact ⟨⟨rfl, by decide⟩, by omega, Nat.le_of_ble_eq_true rfl, fun _ => ⟨fun _ => ⟨by omega, rfl, rfl, hR2⟩, fun q => ⟨rfl, ib01, fun _ => ⟨by omega, rfl, rfl, hR2⟩, fun q2 => absurd ((lg_cmp_eq _ _).mpr (hv (Classical.not_not.mp q))) q2⟩⟩, fun q => absurd hk q⟩
set_option maxRecDepth 20000 in
set_option maxHeartbeats 2000000 in
theorem case_19 (hL : L ≤ 2560) (hn : 5 * n + 4 < L) (hu : u ≤ 400 + 18 * n) (h : Rl (10000 * n) s) : wp (lk (tab_lawC19 L xs)) (cE n) 150256 (fun _ _ => False) (fun _ _ => False) 90 1402 u (lp n) [] s := by
  have h' : Rl (10000 * (n + 1)) s := Rl_mono (by omega) h
  have b1 : Ib (nI (5 * n) + 1) L := ib_k hn hL (j := 1) rfl (by decide)
  refine ⟨b1, by omega, Nat.le_of_ble_eq_true rfl, trivial, trivial, rfl, ⟨rfl, by decide⟩, rfl, _, al_appeal h', ?_⟩
  rintro r s1 ⟨kk, rfl, h2⟩
  refine ⟨b1, ⟨rfl, by decide⟩, by omega, Nat.le_of_ble_eq_true rfl, _, h2, ?_⟩
  rintro r s2 ⟨hR2, hk, rfl⟩
  exact ⟨⟨rfl, by decide⟩, by omega, Nat.le_of_ble_eq_true rfl, fun _ => ⟨by omega, rfl, rfl, hR2⟩, fun q => absurd hk q⟩
end Cas

