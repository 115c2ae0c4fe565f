/-! class and model alike: sentence, appeal, cause -/
section Sent2
variable {D : Nat} {s : Sg}
theorem MI_e {s' : Sg} (e1 : s'.2.1 20 0 1 = s.2.1 20 0 1) (e2 : s'.2.1 20 0 12 = s.2.1 20 0 12) (e3 : s'.2.1 20 0 21 = s.2.1 20 0 21) (h : MI s) : MI s' := by
  unfold MI MI0 at h ⊢
  rw [e1, e2, e3]
  exact h
theorem kW_20 {a b c : Nat} (h : kW a b c = true) : 20 ≤ a := by
  unfold kW at h
  simp only [Bool.or_eq_true, Bool.and_eq_true] at h
  rcases h with ((h | h) | h) | h
  · have := Nat.eq_of_beq_eq_true h.1.1; omega
  · have := Nat.eq_of_beq_eq_true h; omega
  · have := Nat.eq_of_beq_eq_true h; omega
  · have := Nat.eq_of_beq_eq_true h; omega
theorem seS_n {z : Sg} {q : Nat} (h : ¬ z.2.1 14 q 2 = 2) : seS z q = z := iteP_f h
theorem seS_y {z : Sg} {q v : Nat} {t : Int32} (h : z.2.1 14 q 2 = 2) (hv : cl (z.2.1 14 q 0) = v) (ht : z.2.1 1 0 7 = t) : seS z q = stS (stS z 13 v 6 1) 13 v 7 t := by
  unfold seS
  rw [iteP_t h, hv, ht]
theorem n12 : ¬ (1 : Int32) = 2 := by decide
theorem n13 : ¬ (1 : Int32) = 3 := by decide
theorem n23 : ¬ (2 : Int32) = 3 := by decide
section SenP
variable {z : Sg} {q : Nat} {N : Nt}
theorem senP_1a (e : z.2.1 45 0 q = 1) (h0 : majM z q = 0) (g : N (some (aI (majM z q))) (stS (seM z q 0 (majM z q)) 44 0 q 3)) : senP z q N :=
  ⟨fun _ _ => g, fun _ k => absurd h0 k, fun k => absurd (e.symm.trans k) n12, fun k => absurd (e.symm.trans k) n12, fun k => absurd (e.symm.trans k) n12, fun k => absurd (e.symm.trans k) n13, fun k => absurd (e.symm.trans k) n13⟩
theorem senP_1b (e : z.2.1 45 0 q = 1) (h0 : ¬ majM z q = 0) (g : N (some (aI (majM z q))) (opnM (seM z q 0 (majM z q)) q 2)) : senP z q N :=
  ⟨fun _ k => absurd k h0, fun _ _ => g, fun k => absurd (e.symm.trans k) n12, fun k => absurd (e.symm.trans k) n12, fun k => absurd (e.symm.trans k) n12, fun k => absurd (e.symm.trans k) n13, fun k => absurd (e.symm.trans k) n13⟩
theorem senP_2a (e : z.2.1 45 0 q = 2) (hl : likeM (majM z q) (z.2.1 49 0 (3 * q))) (h0 : majM z q = 0) (g : N (some (aI (majM z q))) (stS (seM z q 1 (majM z q)) 44 0 q 3)) : senP z q N :=
  ⟨fun k => absurd (k.symm.trans e) n12, fun k => absurd (k.symm.trans e) n12, fun _ _ _ => g, fun _ _ k => absurd h0 k, fun _ k => absurd hl k, fun k => absurd (e.symm.trans k) n23, fun k => absurd (e.symm.trans k) n23⟩
theorem senP_2b (e : z.2.1 45 0 q = 2) (hl : likeM (majM z q) (z.2.1 49 0 (3 * q))) (h0 : ¬ majM z q = 0) (g : N (some (aI (majM z q))) (nulM (seM z q 1 (majM z q)) q)) : senP z q N :=
  ⟨fun k => absurd (k.symm.trans e) n12, fun k => absurd (k.symm.trans e) n12, fun _ _ k => absurd k h0, fun _ _ _ => g, fun _ k => absurd hl k, fun k => absurd (e.symm.trans k) n23, fun k => absurd (e.symm.trans k) n23⟩
theorem senP_2c (e : z.2.1 45 0 q = 2) (hl : ¬ likeM (majM z q) (z.2.1 49 0 (3 * q))) (g : N (some (aI (majM z q))) (opnM (seM z q 1 (majM z q)) q 3)) : senP z q N :=
  ⟨fun k => absurd (k.symm.trans e) n12, fun k => absurd (k.symm.trans e) n12, fun _ k => absurd k hl, fun _ k => absurd k hl, fun _ _ => g, fun k => absurd (e.symm.trans k) n23, fun k => absurd (e.symm.trans k) n23⟩
theorem senP_3a (e : z.2.1 45 0 q = 3) (hl : ¬ majM z q = 0 ∧ (likeM (majM z q) (z.2.1 49 0 (3 * q)) ∨ likeM (majM z q) (z.2.1 49 0 (3 * q + 1)))) (g : N (some (aI (majM z q))) (nulM (seM z q 2 (majM z q)) q)) : senP z q N :=
  ⟨fun k => absurd (k.symm.trans e) n13, fun k => absurd (k.symm.trans e) n13, fun k => absurd (k.symm.trans e) n23, fun k => absurd (k.symm.trans e) n23, fun k => absurd (k.symm.trans e) n23, fun _ _ => g, fun _ k => absurd hl k⟩
theorem senP_3b (e : z.2.1 45 0 q = 3) (hl : ¬ (¬ majM z q = 0 ∧ (likeM (majM z q) (z.2.1 49 0 (3 * q)) ∨ likeM (majM z q) (z.2.1 49 0 (3 * q + 1))))) (g : N (some (aI (majM z q))) (stS (seM z q 2 (majM z q)) 44 0 q 3)) : senP z q N :=
  ⟨fun k => absurd (k.symm.trans e) n13, fun k => absurd (k.symm.trans e) n13, fun k => absurd (k.symm.trans e) n23, fun k => absurd (k.symm.trans e) n23, fun k => absurd (k.symm.trans e) n23, fun _ k => absurd k hl, fun _ _ => g⟩
end SenP
theorem rn_like {a b : Int32} (ha : rn a) (hb : rn b) : likeC a b ↔ likeM a b := by
  obtain ⟨x, hx, rfl⟩ := ha
  obtain ⟨y, hy, rfl⟩ := hb
  exact like_iff x hx y hy
theorem al_sentence {c : Int32} (h : Rl D s) : alI sp_L_sentence [aR 1 0, aI c, aR 60 0] sp_X5_sentence [aR 20 0, aI c] D s := by
  have hM := Rl_M h
  have hW := Rl_W h
  have hip := Rl_c h (p := c)
  refine ⟨rfl, Rl_CI h, fun hn => ⟨1, rfl, hM, hW, f2_1 (fun q => hn (hip.mpr q)) (okI_th (by decide) h)⟩, fun hp => ?_⟩
  have hip' := hip.mp hp
  obtain ⟨q, hq, rfl, hcq⟩ := Rl_cn h hp
  obtain ⟨⟨a1, a2, a3, a4⟩, -, b3, b4, b5⟩ := h.2.2.2.2.2.2.2.2.2.2.2.1 q hq
  obtain ⟨r1, r2, r3, r4, r5, r6⟩ := h.2.2.2.2.2.2.2.2.2.2.2.2.1 q hq
  have hc : (s.2.1 14 (cl (nI q)) 2 = 1 ∧ vcC s (cl (nI q)) = 3) ↔ (s.2.1 44 0 (cl (nI q)) = 1 ∧ s.2.1 47 0 (cl (nI q)) = 3) := by rw [hcq, a3, b5]
  refine ⟨fun hn => ⟨2, rfl, hM, hW, f2_2 hip' (fun z => hn (hc.mpr z)) (okI_th (by decide) h)⟩, fun hr => ?_⟩
  have hc' := hc.mp hr
  rw [hcq] at hr ⊢
  obtain ⟨v1, v2, v3⟩ := vc_3 hr.2
  have u0 := (r3 0 (by decide)).resolve_left v1
  have u1 := (r3 1 (by decide)).resolve_left v2
  have u2 := (r3 2 (by decide)).resolve_left v3
  have hd : rn (mjC s q) := rn_or (rn_or (rn_and u0 u1) (rn_and u0 u2)) (rn_and u1 u2)
  have hmj : majM s q = mjC s q := by
    have e0 := b3 0 (by decide)
    rw [Nat.add_zero] at e0
    unfold majM mjC
    rw [e0, b3 1 (by decide), b3 2 (by decide)]
  obtain ⟨d, hdd⟩ : ∃ d, d = mjC s q := ⟨_, rfl⟩
  rw [← hdd] at hd hmj ⊢
  obtain ⟨v, hv, ev, cv⟩ := Rl_vn h (Rl_c0 h hq)
  have cv0 : cl (s.2.1 14 q 0) = v := by rw [ev, cv]
  have cv42 : cl (s.2.1 42 0 q) = v := by rw [a1, cv0]
  have hday := Rl_day h
  have s0 := b4 0 (by decide)
  rw [Nat.add_zero] at s0
  have s1 := b4 1 (by decide)
  have fin : ∀ z : Sg, (∀ a b c, 20 ≤ a → z.2.1 a b c = s.2.1 a b c) → senP (stO z d.toInt64) q (okI D 0) → ∃ kk, some (aI 0) = some (aI kk) ∧ sp_X5_sentence [aR 20 0, aI (nI q)] (stO z d.toInt64) (okI D kk) (fun _ _ => False) := by
    intro z hz hS
    refine ⟨0, rfl, MI_e (hz 20 0 1 (by decide)) (hz 20 0 12 (by decide)) (hz 20 0 21 (by decide)) hM, WI_ag (s := s) (s' := stO z d.toInt64) (fun a b c ha => hz a b c (kW_20 ha)) hW, f2_0 ?_ ?_ ⟨?_, ?_⟩⟩
    · show inR (nI q) 0 (z.2.1 20 0 21 - 1)
      rw [hz 20 0 21 (by decide)]
      exact hip'
    · show z.2.1 44 0 (cl (nI q)) = 1 ∧ z.2.1 47 0 (cl (nI q)) = 3
      rw [hz 44 0 _ (by decide), hz 47 0 _ (by decide)]
      exact hc'
    · show z.2.1 45 0 (cl (nI q)) = 1 ∨ z.2.1 45 0 (cl (nI q)) = 2 ∨ z.2.1 45 0 (cl (nI q)) = 3
      rw [hz 45 0 _ (by decide), hcq, a4]
      exact r2
    · rw [hcq]; exact hS
  have mz : ∀ z : Sg, (∀ a b c, 20 ≤ a → z.2.1 a b c = s.2.1 a b c) → majM (stO z d.toInt64) q = d := by
    intro z hz
    rw [← hmj]
    show maj3 (z.2.1 48 0 (3 * q)) (z.2.1 48 0 (3 * q + 1)) (z.2.1 48 0 (3 * q + 2)) = _
    rw [hz 48 0 _ (by decide), hz 48 0 _ (by decide), hz 48 0 _ (by decide)]
    rfl
  have i45 : ∀ z : Sg, (∀ a b c, 20 ≤ a → z.2.1 a b c = s.2.1 a b c) → (stO z d.toInt64).2.1 45 0 q = s.2.1 14 q 3 := by
    intro z hz
    rw [← a4]
    exact hz 45 0 q (by decide)
  have l0 : ∀ z : Sg, (∀ a b c, 20 ≤ a → z.2.1 a b c = s.2.1 a b c) → (stO z d.toInt64).2.1 49 0 (3 * q) = s.2.1 17 q 0 := by
    intro z hz
    rw [← s0]
    exact hz 49 0 _ (by decide)
  have l1 : ∀ z : Sg, (∀ a b c, 20 ≤ a → z.2.1 a b c = s.2.1 a b c) → (stO z d.toInt64).2.1 49 0 (3 * q + 1) = s.2.1 17 q 1 := by
    intro z hz
    rw [← s1]
    exact hz 49 0 _ (by decide)
  -- the class's states
  have zA : ∀ (j : Nat) (a b c : Nat), 20 ≤ a → (stS (stS s 17 q j d) 14 q 2 3).2.1 a b c = s.2.1 a b c := fun j a b c ha => by
    rw [stS_get, if_neg (by omega), stS_get, if_neg (by omega)]
  have zB : ∀ (j : Nat) (a b c : Nat), 20 ≤ a → (reoC (stS s 17 q j d) q).2.1 a b c = s.2.1 a b c := fun j a b c ha => by
    unfold reoC
    rw [stI_get, if_neg (by omega), stS_get, if_neg (by omega), stS_get, if_neg (by omega), stS_get, if_neg (by omega)]
  have zC : ∀ (j : Nat) (a b c : Nat), 20 ≤ a → (stS (stS (stS (stS s 17 q j d) 14 q 2 2) 13 v 6 1) 13 v 7 (s.2.1 1 0 7)).2.1 a b c = s.2.1 a b c := fun j a b c ha => by
    rw [stS_get, if_neg (by omega), stS_get, if_neg (by omega), stS_get, if_neg (by omega), stS_get, if_neg (by omega)]
  have nA : ∀ j, seS (stS (stS s 17 q j d) 14 q 2 3) q = stS (stS s 17 q j d) 14 q 2 3 := fun j => seS_n (by rw [stS_get, if_pos ⟨rfl, rfl, rfl⟩]; decide)
  have nB : ∀ j, seS (reoC (stS s 17 q j d) q) q = reoC (stS s 17 q j d) q := fun j => seS_n (by
    unfold reoC
    rw [stI_get, if_neg (by omega), stS_get, if_pos ⟨rfl, rfl, rfl⟩]
    decide)
  have nC : ∀ j, seS (stS (stS s 17 q j d) 14 q 2 2) q = stS (stS (stS (stS s 17 q j d) 14 q 2 2) 13 v 6 1) 13 v 7 (s.2.1 1 0 7) := fun j => seS_y (by rw [stS_get, if_pos ⟨rfl, rfl, rfl⟩]) (by
    rw [stS_get, if_neg (by omega), stS_get, if_neg (by omega)]
    exact cv0) rfl
  -- what is told of the answer
  have okA : ∀ (z y : Sg), (∀ a b c, 20 ≤ a → z.2.1 a b c = s.2.1 a b c) → Rl D y → y.2.1 20 0 32 = 0 → y.2.2 = d.toInt64 → okI D 0 (some (aI (majM (stO z d.toInt64) q))) y := fun z y hz hy h32 ho => by
    rw [mz z hz]
    exact ⟨hy, h32, d, rfl, fun _ => ho⟩
  have hA : ∀ (j : Nat), j < 3 → (j = 0 ∨ rn (s.2.1 17 q 0)) → (s.2.1 14 q 3 = 3 → j = 1 ∨ rn (s.2.1 17 q 1)) → okI D 0 (some (aI (majM (stO (stS (stS s 17 q j d) 14 q 2 3) d.toInt64) q))) (stS (seM (stO (stS (stS s 17 q j d) 14 q 2 3) d.toInt64) q j (majM (stO (stS (stS s 17 q j d) 14 q 2 3) d.toInt64) q)) 44 0 q 3) := fun j hj k0 k1 => by
    refine okA _ _ (zA j) ?_ rfl rfl
    rw [mz _ (zA j)]
    exact se1_Rl hq hj hd k0 k1 h
  have hB : ∀ (j : Nat) (w : Int32), j < 3 → s.2.1 14 q 3 + 1 = w → (w = 2 ∨ w = 3) → (j = 0 ∨ rn (s.2.1 17 q 0)) → (w = 3 → j = 1 ∨ rn (s.2.1 17 q 1)) → okI D 0 (some (aI (majM (stO (reoC (stS s 17 q j d) q) d.toInt64) q))) (opnM (seM (stO (reoC (stS s 17 q j d) q) d.toInt64) q j (majM (stO (reoC (stS s 17 q j d) q) d.toInt64) q)) q w) := fun j w hj hw hw2 k0 k1 => by
    refine okA _ _ (zB j) ?_ (by unfold opnM; rw [stR_get, if_neg (by omega)]; rfl) rfl
    rw [mz _ (zB j)]
    exact se2_Rl hq hj hd hw hw2 k0 k1 h
  have hC9 : ∀ (j : Nat), j < 3 → (¬ s.2.1 14 q 3 = 1 → j = 0 ∨ rn (s.2.1 17 q 0)) → (s.2.1 14 q 3 = 3 → j = 1 ∨ rn (s.2.1 17 q 1)) → okI D 0 (some (aI (majM (stO (stS (stS (stS (stS s 17 q j d) 14 q 2 2) 13 v 6 1) 13 v 7 (s.2.1 1 0 7)) d.toInt64) q))) (nulM (seM (stO (stS (stS (stS (stS s 17 q j d) 14 q 2 2) 13 v 6 1) 13 v 7 (s.2.1 1 0 7)) d.toInt64) q j (majM (stO (stS (stS (stS (stS s 17 q j d) 14 q 2 2) 13 v 6 1) 13 v 7 (s.2.1 1 0 7)) d.toInt64) q)) q) := fun j hj k0 k1 => by
    have e42 : ∀ x, cl ((seM (stO (stS (stS (stS (stS s 17 q j d) 14 q 2 2) 13 v 6 1) 13 v 7 (s.2.1 1 0 7)) d.toInt64) q j x).2.1 42 0 q) = v := fun x => cv42
    have e20 : ∀ x, (seM (stO (stS (stS (stS (stS s 17 q j d) 14 q 2 2) 13 v 6 1) 13 v 7 (s.2.1 1 0 7)) d.toInt64) q j x).2.1 20 0 0 = s.2.1 1 0 7 := fun x => hday
    unfold nulM
    rw [e42, e20]
    refine okA _ _ (zC j) ?_ rfl rfl
    rw [mz _ (zC j)]
    exact se3_Rl hq hj hd hv k0 k1 h
  rcases r2 with hi | hi | hi
  · have eco : coC s q d = cfC s q d := iteP_t hi
    rw [eco]
    unfold cfC
    by_cases d0 : d = 0
    · rw [iteP_t d0, nA]
      exact fin _ (zA 0) (senP_1a ((i45 _ (zA 0)).trans hi) ((mz _ (zA 0)).trans d0) (hA 0 (by decide) (Or.inl rfl) (fun k => absurd (hi.symm.trans k) n13)))
    · rw [iteP_f d0, nB]
      exact fin _ (zB 0) (senP_1b ((i45 _ (zB 0)).trans hi) (fun k => d0 ((mz _ (zB 0)).symm.trans k)) (hB 0 2 (by decide) (by rw [hi]; rfl) (Or.inl rfl) (Or.inl rfl) (fun k => absurd k n23)))
  · have eco : coC s q d = csC s q d := by
      unfold coC
      rw [iteP_f (fun k => absurd (k.symm.trans hi) n12), iteP_t hi]
    have r0 := r4 (fun k => absurd (k.symm.trans hi) n12)
    have hl := rn_like hd r0
    rw [eco]
    unfold csC
    by_cases hL : likeC d (s.2.1 17 q 0)
    · rw [iteP_t hL]
      have hLM : ∀ z : Sg, (∀ a b c, 20 ≤ a → z.2.1 a b c = s.2.1 a b c) → likeM (majM (stO z d.toInt64) q) ((stO z d.toInt64).2.1 49 0 (3 * q)) := fun z hz => by
        rw [mz z hz, l0 z hz]
        exact hl.mp hL
      by_cases d0 : d = 0
      · rw [if_pos d0, nA]
        exact fin _ (zA 1) (senP_2a ((i45 _ (zA 1)).trans hi) (hLM _ (zA 1)) ((mz _ (zA 1)).trans d0) (hA 1 (by decide) (Or.inr r0) (fun _ => Or.inl rfl)))
      · rw [if_neg d0, nC]
        exact fin _ (zC 1) (senP_2b ((i45 _ (zC 1)).trans hi) (hLM _ (zC 1)) (fun k => d0 ((mz _ (zC 1)).symm.trans k)) (hC9 1 (by decide) (fun _ => Or.inr r0) (fun _ => Or.inl rfl)))
    · rw [iteP_f hL, nB]
      exact fin _ (zB 1) (senP_2c ((i45 _ (zB 1)).trans hi) (by
        rw [mz _ (zB 1), l0 _ (zB 1)]
        exact fun k => hL (hl.mpr k)) (hB 1 3 (by decide) (by rw [hi]; rfl) (Or.inr rfl) (Or.inr r0) (fun _ => Or.inl rfl)))
  · have eco : coC s q d = ctC s q d := by
      unfold coC
      rw [iteP_f (fun k => absurd (k.symm.trans hi) n13), iteP_f (fun k => absurd (k.symm.trans hi) n23)]
    have r0 := r4 (fun k => absurd (k.symm.trans hi) n13)
    have r9 := r5 hi
    have hl0 := rn_like hd r0
    have hl1 := rn_like hd r9
    rw [eco]
    unfold ctC
    have hiff : ∀ z : Sg, (∀ a b c, 20 ≤ a → z.2.1 a b c = s.2.1 a b c) → ((¬ majM (stO z d.toInt64) q = 0 ∧ (likeM (majM (stO z d.toInt64) q) ((stO z d.toInt64).2.1 49 0 (3 * q)) ∨ likeM (majM (stO z d.toInt64) q) ((stO z d.toInt64).2.1 49 0 (3 * q + 1)))) ↔ (¬ d = 0 ∧ (likeC d (s.2.1 17 q 0) ∨ likeC d (s.2.1 17 q 1)))) := fun z hz => by
      rw [mz z hz, l0 z hz, l1 z hz, hl0, hl1]
    by_cases hL : ¬ d = 0 ∧ (likeC d (s.2.1 17 q 0) ∨ likeC d (s.2.1 17 q 1))
    · rw [iteP_t hL, nC]
      exact fin _ (zC 2) (senP_3a ((i45 _ (zC 2)).trans hi) ((hiff _ (zC 2)).mpr hL) (hC9 2 (by decide) (fun _ => Or.inr r0) (fun _ => Or.inr r9)))
    · rw [iteP_f hL, nA]
      exact fin _ (zA 2) (senP_3b ((i45 _ (zA 2)).trans hi) (fun k => hL ((hiff _ (zA 2)).mp k)) (hA 2 (by decide) (Or.inr r0) (fun _ => Or.inr r9)))
theorem nI_inj {a b : Nat} (ha : a < 1000) (hb : b < 1000) (e : nI a = nI b) : a = b := by
  have := congrArg Int32.toInt e
  rw [nI_toInt (by omega), nI_toInt (by omega)] at this
  omega
theorem al_appeal {c : Int32} (h : Rl D s) : alV sp_L_appeal [aR 1 0, aI c] sp_X5_appeal [aR 20 0, aI c] D s := by
  have hM := Rl_M h
  have hW := Rl_W h
  have hip := Rl_c h (p := c)
  refine ⟨rfl, Rl_CI h, fun hn => ⟨1, rfl, hM, hW, f2_1 (fun q => hn (hip.mpr q)) (okV_th h)⟩, fun hp => ?_⟩
  have hip' := hip.mp hp
  obtain ⟨q, hq, rfl, hcq⟩ := Rl_cn h hp
  have h30 := (Rl_n h).2.2
  obtain ⟨⟨a1, a2, a3, a4⟩, -, b3, b4, b5⟩ := h.2.2.2.2.2.2.2.2.2.2.2.1 q hq
  obtain ⟨v, hv, ev, cv⟩ := Rl_vn h (Rl_c0 h hq)
  have hc : (s.2.1 14 (cl (nI q)) 2 = 3 ∧ s.2.1 14 (cl (nI q)) 3 = 1) ↔ (s.2.1 44 0 (cl (nI q)) = 3 ∧ s.2.1 45 0 (cl (nI q)) = 1) := by rw [hcq, a3, a4]
  have hmb : s.2.1 14 (cl (nI q)) 2 = 3 → (mbj s (s.2.1 14 (cl (nI q)) 0) ↔ ((s.2.1 39 0 (cl (s.2.1 42 0 (cl (nI q)))) = 0 ∨ s.2.1 39 0 (cl (s.2.1 42 0 (cl (nI q)))) = 3) ∧ quietM s (s.2.1 42 0 (cl (nI q))) (nI q))) := fun h3 => by
    rw [hcq] at h3 ⊢
    rw [a1, ev, cv]
    exact mbj_iff h hv (fun c' hc' e => by rw [nI_inj (by omega) (by omega) e]; exact h3)
  refine ⟨fun hn => ⟨2, rfl, hM, hW, f2_2 hip' (fun z => hn (hc.mpr ⟨z.1, z.2.1⟩)) (okV_th h)⟩, fun h1 => ⟨fun hn => ⟨2, rfl, hM, hW, f2_2 hip' (fun z => hn ((hmb h1.1).mpr z.2.2)) (okV_th h)⟩, fun h2 => ?_⟩⟩
  have h1' := hc.mp h1
  have hrn := (h.2.2.2.2.2.2.2.2.2.2.2.2.1 q hq).2.2.2.2.2 (by rw [hcq] at h1; exact h1.1)
  have hin : s.2.1 14 q 3 = 1 := by rw [hcq] at h1; exact h1.2
  refine ⟨0, rfl, MI_e rfl rfl rfl hM, WI_ag (s := s) (fun a b c ha => ?_) hW, f2_0 hip' ⟨h1'.1, h1'.2, (hmb h1.1).mp h2⟩ ⟨?_, ?_, rfl⟩⟩
  · have := kW_20 ha
    unfold reoC
    rw [stI_get, if_neg (by omega), stS_get, if_neg (by omega), stS_get, if_neg (by omega)]
  · rw [hcq]
    have s0 := b4 0 (by decide)
    obtain ⟨h0, hP, hPf, hB, hE, hU, hD, hS, hV, hVf, hVl, hC, hCr, hCf⟩ := h
    obtain ⟨c1, c2, c3⟩ := sen_C (y := stR (stS (stS (stS (th (reoC s q) 0) 44 0 q 0) 45 0 q 2) 47 0 q 0) 48 (3 * q) 3 (-1)) (j := 0) (d := s.2.1 17 q 0) (st := 0) (ins := 2) (by decide) hrn hq hC hCr hCf rfl (fun z => by simp [reoC, stS_get, stR_get, stI_get]) (fun z => by simp [reoC, stS_get, stR_get, stI_get]) (fun z => by simp [reoC, stS_get, stR_get, stI_get]) (fun z g => by simp [reoC, stS_get, stR_get, stI_get]) (fun z => by simp [reoC, stS_get, stR_get, stI_get]) (fun z => by simp [reoC, stS_get, stR_get, stI_get])
      (fun z c => by
        by_cases hz : z = q
        · by_cases h2 : c = 2
          · simp [reoC, stS_get, stR_get, stI_get, hz, h2]
          · by_cases h3 : c = 3
            · simp [reoC, stS_get, stR_get, stI_get, hz, h3, hin]
            · simp [reoC, stS_get, stR_get, stI_get, hz, h2, h3]
        · simp [reoC, stS_get, stR_get, stI_get, hz])
      (fun i => by
        by_cases hi : i = 3 * q + 0
        · rw [if_pos hi, hi, ← s0]
          simp [reoC, stS_get, stR_get, stI_get]
        · rw [if_neg hi]
          simp [reoC, stS_get, stR_get, stI_get])
      (fun z c => by
        by_cases hi : z = q ∧ c = 0
        · rw [if_pos hi, hi.1, hi.2]
          simp [reoC, stS_get, stR_get, stI_get]
        · rw [if_neg hi]
          simp [reoC, stS_get, stR_get, stI_get])
      (Or.inr ⟨fun z g hg => ⟨by
        by_cases hz : z = q
        · simp [reoC, stS_get, stR_get, stI_get, hz]
          omega
        · have e : ¬ (3 * q ≤ 3 * z + g ∧ 3 * z + g < 3 * q + 3) := by omega
          simp [reoC, stS_get, stR_get, stI_get, hz, e], by
        by_cases hz : z = q
        · simp [reoC, stS_get, stR_get, stI_get, hz, hg]
        · simp [reoC, stS_get, stR_get, stI_get, hz]⟩, fun z => by simp [reoC, stS_get, stR_get, stI_get]⟩) (Or.inr (Or.inl rfl)) (fun _ => Or.inl rfl) (fun k => absurd k n23)
    unfold reoC at c1 c2 c3 ⊢
    exact ⟨R0_ag (s := s) rfl (by repeat' (first | (with_reducible refine ag_st ?_ ?_) | (with_reducible refine ag_O ?_) | (with_reducible refine ag_R ?_ ?_) | (with_reducible refine ag_I ?_ ?_) | (with_reducible refine ag_F ?_ ?_) | (with_reducible refine ag_tw ?_ ?_ ?_) | (with_reducible refine ag_die ?_ ?_ ?_) | (with_reducible refine ag_ev ?_ ?_ ?_ _) | (with_reducible exact ag_rf) | (exact rfl) | (exact fun _ => rfl))) h0, RPs_ag (s := s) rfl (by repeat' (first | (with_reducible refine ag_st ?_ ?_) | (with_reducible refine ag_O ?_) | (with_reducible refine ag_R ?_ ?_) | (with_reducible refine ag_I ?_ ?_) | (with_reducible refine ag_F ?_ ?_) | (with_reducible refine ag_tw ?_ ?_ ?_) | (with_reducible refine ag_die ?_ ?_ ?_) | (with_reducible refine ag_ev ?_ ?_ ?_ _) | (with_reducible exact ag_rf) | (exact rfl) | (exact fun _ => rfl))) hP, RPf_ag (s := s) rfl (by repeat' (first | (with_reducible refine ag_st ?_ ?_) | (with_reducible refine ag_O ?_) | (with_reducible refine ag_R ?_ ?_) | (with_reducible refine ag_I ?_ ?_) | (with_reducible refine ag_F ?_ ?_) | (with_reducible refine ag_tw ?_ ?_ ?_) | (with_reducible refine ag_die ?_ ?_ ?_) | (with_reducible refine ag_ev ?_ ?_ ?_ _) | (with_reducible exact ag_rf) | (exact rfl) | (exact fun _ => rfl))) hPf, RB_ag (s := s) rfl (by repeat' (first | (with_reducible refine ag_st ?_ ?_) | (with_reducible refine ag_O ?_) | (with_reducible refine ag_R ?_ ?_) | (with_reducible refine ag_I ?_ ?_) | (with_reducible refine ag_F ?_ ?_) | (with_reducible refine ag_tw ?_ ?_ ?_) | (with_reducible refine ag_die ?_ ?_ ?_) | (with_reducible refine ag_ev ?_ ?_ ?_ _) | (with_reducible exact ag_rf) | (exact rfl) | (exact fun _ => rfl))) hB, REr_ag (s := s) (by repeat' (first | (with_reducible refine ag_st ?_ ?_) | (with_reducible refine ag_O ?_) | (with_reducible refine ag_R ?_ ?_) | (with_reducible refine ag_I ?_ ?_) | (with_reducible refine ag_F ?_ ?_) | (with_reducible refine ag_tw ?_ ?_ ?_) | (with_reducible refine ag_die ?_ ?_ ?_) | (with_reducible refine ag_ev ?_ ?_ ?_ _) | (with_reducible exact ag_rf) | (exact rfl) | (exact fun _ => rfl))) hE, RUn_ag (s := s) (by repeat' (first | (with_reducible refine ag_st ?_ ?_) | (with_reducible refine ag_O ?_) | (with_reducible refine ag_R ?_ ?_) | (with_reducible refine ag_I ?_ ?_) | (with_reducible refine ag_F ?_ ?_) | (with_reducible refine ag_tw ?_ ?_ ?_) | (with_reducible refine ag_die ?_ ?_ ?_) | (with_reducible refine ag_ev ?_ ?_ ?_ _) | (with_reducible exact ag_rf) | (exact rfl) | (exact fun _ => rfl))) hU, RDs_ag (s := s) (by repeat' (first | (with_reducible refine ag_st ?_ ?_) | (with_reducible refine ag_O ?_) | (with_reducible refine ag_R ?_ ?_) | (with_reducible refine ag_I ?_ ?_) | (with_reducible refine ag_F ?_ ?_) | (with_reducible refine ag_tw ?_ ?_ ?_) | (with_reducible refine ag_die ?_ ?_ ?_) | (with_reducible refine ag_ev ?_ ?_ ?_ _) | (with_reducible exact ag_rf) | (exact rfl) | (exact fun _ => rfl))) hD, RSt_ag (s := s) rfl (by repeat' (first | (with_reducible refine ag_st ?_ ?_) | (with_reducible refine ag_O ?_) | (with_reducible refine ag_R ?_ ?_) | (with_reducible refine ag_I ?_ ?_) | (with_reducible refine ag_F ?_ ?_) | (with_reducible refine ag_tw ?_ ?_ ?_) | (with_reducible refine ag_die ?_ ?_ ?_) | (with_reducible refine ag_ev ?_ ?_ ?_ _) | (with_reducible exact ag_rf) | (exact rfl) | (exact fun _ => rfl))) hS, RVs_ag (s := s) rfl (by repeat' (first | (with_reducible refine ag_st ?_ ?_) | (with_reducible refine ag_O ?_) | (with_reducible refine ag_R ?_ ?_) | (with_reducible refine ag_I ?_ ?_) | (with_reducible refine ag_F ?_ ?_) | (with_reducible refine ag_tw ?_ ?_ ?_) | (with_reducible refine ag_die ?_ ?_ ?_) | (with_reducible refine ag_ev ?_ ?_ ?_ _) | (with_reducible exact ag_rf) | (exact rfl) | (exact fun _ => rfl))) hV, RVf_ag (s := s) rfl (by repeat' (first | (with_reducible refine ag_st ?_ ?_) | (with_reducible refine ag_O ?_) | (with_reducible refine ag_R ?_ ?_) | (with_reducible refine ag_I ?_ ?_) | (with_reducible refine ag_F ?_ ?_) | (with_reducible refine ag_tw ?_ ?_ ?_) | (with_reducible refine ag_die ?_ ?_ ?_) | (with_reducible refine ag_ev ?_ ?_ ?_ _) | (with_reducible exact ag_rf) | (exact rfl) | (exact fun _ => rfl))) hVf, RVl_ag (s := s) rfl (by repeat' (first | (with_reducible refine ag_st ?_ ?_) | (with_reducible refine ag_O ?_) | (with_reducible refine ag_R ?_ ?_) | (with_reducible refine ag_I ?_ ?_) | (with_reducible refine ag_F ?_ ?_) | (with_reducible refine ag_tw ?_ ?_ ?_) | (with_reducible refine ag_die ?_ ?_ ?_) | (with_reducible refine ag_ev ?_ ?_ ?_ _) | (with_reducible exact ag_rf) | (exact rfl) | (exact fun _ => rfl))) hVl, c1, c2, c3⟩
  · rw [stR_get, if_neg (by omega)]
    rfl
end Sent2

