/-! class and model alike: vows asked for, healed, ended -/
theorem lbC_low {s : Sg} {p t : Int32} : ∀ f i, lowest (fun c => boC s c p t) i (i + f) (lbC s p t f i)
  | 0, i => Or.inl ⟨rfl, fun c h1 h2 => by omega⟩
  | f + 1, i => by
    unfold lbC
    by_cases h : boC s i p t
    · rw [iteP_t h]
      exact low_y (Q := fun c => boC s c p t) (by omega) h
    · rw [iteP_f h]
      have := lbC_low (s := s) (p := p) (t := t) f (i + 1)
      rw [show i + 1 + f = i + (f + 1) by omega] at this
      exact low_n (Q := fun c => boC s c p t) h this
theorem low_uq {Q : Nat → Prop} {a n : Nat} {x y : Int32} (hx : lowest Q a n x) (hy : lowest Q a n y) : x = y := by
  rcases hx with ⟨rfl, h1⟩ | ⟨v, a1, a2, rfl, a4, a5⟩ <;> rcases hy with ⟨rfl, h2⟩ | ⟨w, b1, b2, rfl, b4, b5⟩
  · rfl
  · exact absurd b4 (h1 w b1 b2)
  · exact absurd a4 (h2 v a1 a2)
  · by_cases h : v < w
    · exact absurd a4 (b5 v a1 h)
    · by_cases h' : w < v
      · exact absurd b4 (a5 w b1 h')
      · rw [show v = w by omega]
theorem low_cg {Q Q' : Nat → Prop} {a n : Nat} {x : Int32} (h : ∀ k, k < n → (Q k ↔ Q' k)) (hx : lowest Q a n x) : lowest Q' a n x := by
  rcases hx with ⟨h1, h2⟩ | ⟨v, h1, h2, h3, h4, h5⟩
  · exact Or.inl ⟨h1, fun c hc hn hq => h2 c hc hn ((h c hn).mpr hq)⟩
  · exact Or.inr ⟨v, h1, h2, h3, (h v h2).mp h4, fun c hc hn hq => h5 c hc hn ((h c (by omega)).mpr hq)⟩
theorem nI_ne {v : Nat} (h : v < 100) : ¬ nI v = -1 := fun q => by
  have := congrArg Int32.toInt q
  rw [nI_toInt (by omega), show (-1 : Int32).toInt = -1 from rfl] at this
  omega
theorem lb_iff {s : Sg} {p t : Int32} {n : Nat} (hn : n < 100) : ¬ lbC s p t n 0 = -1 ↔ ∃ k, k < n ∧ boC s k p t := by
  have h := lbC_low (s := s) (p := p) (t := t) n 0
  rw [Nat.zero_add] at h
  rcases h with ⟨h1, h2⟩ | ⟨v, h1, h2, h3, h4, h5⟩
  · rw [h1]
    exact ⟨fun q => absurd rfl q, fun ⟨k, hk, hb⟩ => absurd hb (h2 k (Nat.zero_le _) hk)⟩
  · rw [h3]
    exact ⟨fun _ => ⟨v, h2, h4⟩, fun _ => nI_ne (by omega)⟩
section Vows
variable {D : Nat} {s : Sg}
theorem bb_bo (h : Rl D s) {p t : Int32} {k : Nat} (hk : k < s.1 1) : bbQ s p t k ↔ boC s k p t := by
  obtain ⟨⟨a1, a2, a3, a4⟩, ⟨b1, b2, b3, b4⟩, -⟩ := h.2.2.2.2.2.2.2.2.1 k hk
  unfold bbQ mof mbd boC
  rw [a1, a2, a4, b3, b4, eq_comm (a := s.2.1 13 k 0), eq_comm (a := s.2.1 13 k 1)]
theorem hb_bo (h : Rl D s) {v k : Nat} (hv : v < s.1 1) (hk : k < s.1 1) : hbQ s v k ↔ (boC s k (s.2.1 13 v 0) (s.2.1 13 v 3) ∨ boC s k (s.2.1 13 v 1) (s.2.1 13 v 3)) := by
  obtain ⟨⟨a1, a2, a3, a4⟩, -, -⟩ := h.2.2.2.2.2.2.2.2.1 v hv
  rw [← bb_bo h hk, ← bb_bo h hk]
  unfold bbQ hbQ
  rw [a1, a2, a4]
  constructor
  · rintro ⟨x | x, y⟩
    · exact Or.inl ⟨x, y⟩
    · exact Or.inr ⟨x, y⟩
  · rintro (⟨x, y⟩ | ⟨x, y⟩)
    · exact ⟨Or.inl x, y⟩
    · exact ⟨Or.inr x, y⟩
theorem hnb_iff (h : Rl D s) {v : Nat} (hv : v < s.1 1) : (∃ k, k < v ∧ hbQ s v k) ↔ hnb s v := by
  have h30 := (Rl_n h).2.1
  unfold hnb
  rw [lb_iff (by omega), lb_iff (by omega)]
  constructor
  · rintro ⟨k, hk, hb⟩
    rcases (hb_bo h hv (by omega)).mp hb with hb | hb
    · exact Or.inl ⟨k, hk, hb⟩
    · exact Or.inr ⟨k, hk, hb⟩
  · rintro (⟨k, hk, hb⟩ | ⟨k, hk, hb⟩)
    · exact ⟨k, hk, (hb_bo h hv (by omega)).mpr (Or.inl hb)⟩
    · exact ⟨k, hk, (hb_bo h hv (by omega)).mpr (Or.inr hb)⟩
theorem b4 : ∀ n, n < 12 → n &&& 4 = 0 → nI n ||| 4 = nI n + 4 ∧ nI n + 4 = nI (n + 4) := by decide
theorem hd_eq (h : Rl D s) {v : Nat} (hv : v < s.1 1) : hdM s v = hnC s v ∧ ∃ m, m < 16 ∧ hnC s v = nI m := by
  obtain ⟨-, ⟨b1, b2, b3, b4'⟩, n, hn, hn4, hl⟩ := h.2.2.2.2.2.2.2.2.1 v hv
  unfold hdM hnC
  rw [b1, hl]
  by_cases hb : hnb s v
  · rw [iteP_t ((hnb_iff h hv).mpr hb), iteP_t hb]
    exact ⟨(b4 n hn hn4).1, n + 4, by omega, (b4 n hn hn4).2⟩
  · rw [iteP_f (fun z => hb ((hnb_iff h hv).mp z)), iteP_f hb]
    exact ⟨(Int32.add_zero _).symm, n, by omega, Int32.add_zero _⟩
theorem dc_eq (h : Rl D s) {v : Nat} (hv : v < s.1 1) : dcM s v = dcC s v ∧ ∃ m, m < 32 ∧ dcC s v = nI m := by
  obtain ⟨-, ⟨b1, b2, b3, b4'⟩, -⟩ := h.2.2.2.2.2.2.2.2.1 v hv
  obtain ⟨e, m, hm, e2⟩ := hd_eq h hv
  unfold dcM dcC
  rw [b2, e]
  refine ⟨rfl, ?_⟩
  rw [e2]
  by_cases h5 : s.2.1 13 v 5 = 0
  · rw [iteP_t h5]
    exact ⟨m, by omega, Int32.add_zero _⟩
  · rw [iteP_f h5]
    exact ⟨m + 16, by omega, by rw [show (16 : Int32) = nI 16 from rfl, nI_add]⟩
theorem le_nz : ∀ m, m < 32 → (¬ nI m ≤ 0 ↔ ¬ nI m = 0) := by decide
theorem okI_q {x y : Int32} (h : Rl D s) (e : x = y) : okI D 0 (some (aI y)) (th (stO s x.toInt64) 0) := by
  subst e
  exact ⟨Rl_th (Rl_stO h), th_32, x, rfl, fun _ => rfl⟩
theorem al_hindered {v : Int32} (h : Rl D s) : alI sp_L_hindered [aR 1 0, aI v, aR 60 0] sp_X5_hindered [aR 20 0, aI v] D s := by
  have hM := Rl_M h
  have hip := Rl_v h (p := v)
  refine ⟨rfl, Rl_CI h, fun hn => ⟨1, rfl, hM, f1_1 (fun q => hn (hip.mpr q)) (okI_th (by decide) h)⟩, fun hp => ?_⟩
  have hip' := hip.mp hp
  obtain ⟨q, hq, rfl, hcq⟩ := Rl_vn h hp
  refine ⟨0, rfl, hM, f1_0 hip' (okI_q h ?_)⟩
  show hnC s (cl (nI q)) = hdM s (cl (nI q))
  rw [hcq, (hd_eq h hq).1]
theorem al_vowOf {v w : Int32} (h : Rl D s) : alI sp_L_vowOf [aR 1 0, aI v, aI w, aR 60 0] sp_X5_vowOf [aR 20 0, aI v, aI w] D s := by
  have hM := Rl_M h
  have hip := Rl_v h (p := v)
  have hir : (0 ≤ w ∧ w < 5) ↔ inR w 0 4 := by rw [rg_iff, lt5]
  refine ⟨rfl, Rl_CI h, fun hn => ⟨1, rfl, hM, f2_1 (fun q => hn (hip.mpr q)) (okI_th (by decide) h)⟩, fun hp => ⟨fun hn => ⟨2, rfl, hM, f2_2 (hip.mp hp) (fun q => hn (hir.mpr q)) (okI_th (by decide) h)⟩, fun hr => ?_⟩⟩
  have hip' := hip.mp hp
  have hir' := hir.mp hr
  obtain ⟨q, hq, rfl, hcq⟩ := Rl_vn h hp
  obtain ⟨⟨a1, a2, a3, a4⟩, ⟨b1, b2, b3, b4⟩, -⟩ := h.2.2.2.2.2.2.2.2.1 q hq
  rw [← hcq] at a1 a2 a3 a4 b1 b2 b3 b4
  refine ⟨fun e => ⟨0, rfl, hM, f2_0 hip' hir' ?_⟩, fun e => ⟨0, rfl, hM, f2_0 hip' hir' ?_⟩, fun e => ⟨0, rfl, hM, f2_0 hip' hir' ?_⟩, fun e h5 => ⟨0, rfl, hM, f2_0 hip' hir' ?_⟩, fun e h5 => ⟨0, rfl, hM, f2_0 hip' hir' ?_⟩, fun e0 e1 e2 e3 => ⟨0, rfl, hM, f2_0 hip' hir' ?_⟩⟩
  · subst e
    exact ⟨fun _ => okI_q h b3.symm, fun q => absurd q (by decide), fun q => absurd q (by decide), fun q => absurd q (by decide), fun q => absurd q (by decide), fun q => absurd rfl q⟩
  · subst e
    exact ⟨fun q => absurd q (by decide), fun _ => okI_q h a4.symm, fun q => absurd q (by decide), fun q => absurd q (by decide), fun q => absurd q (by decide), fun _ q => absurd rfl q⟩
  · subst e
    exact ⟨fun q => absurd q (by decide), fun q => absurd q (by decide), fun _ => okI_q h b4.symm, fun q => absurd q (by decide), fun q => absurd q (by decide), fun _ _ q => absurd rfl q⟩
  · subst e
    exact ⟨fun q => absurd q (by decide), fun q => absurd q (by decide), fun q => absurd q (by decide), fun _ h37 => absurd (b2.symm.trans h37) h5, fun _ _ => okI_q h rfl, fun _ _ _ q => absurd rfl q⟩
  · subst e
    exact ⟨fun q => absurd q (by decide), fun q => absurd q (by decide), fun q => absurd q (by decide), fun _ _ => okI_q h rfl, fun _ h37 => absurd (b2.trans h5) h37, fun _ _ _ q => absurd rfl q⟩
  · exact ⟨fun q => absurd q e0, fun q => absurd q e1, fun q => absurd q e2, fun q => absurd q e3, fun q => absurd q e3, fun _ _ _ _ => okI_q h a3.symm⟩
theorem al_bound {p t : Int32} (h : Rl D s) : alI sp_L_bound [aR 1 0, aI p, aI t, aR 60 0] sp_X5_bound [aR 20 0, aI p, aI t] D s := by
  have hM := Rl_M h
  have hip := Rl_p h (p := p)
  have hir : (0 ≤ t ∧ t ≤ 1000000) ↔ inR t 0 1000000 := rg_iff.symm
  refine ⟨rfl, Rl_CI h, fun hn => ⟨1, rfl, hM, f2_1 (fun q => hn (hip.mpr q)) (okI_th (by decide) h)⟩, fun hp => ⟨fun hn => ⟨2, rfl, hM, f2_2 (hip.mp hp) (fun q => hn (hir.mpr q)) (okI_th (by decide) h)⟩, fun hr => ?_⟩⟩
  refine ⟨0, rfl, hM, f2_0 (hip.mp hp) (hir.mp hr) (fun x hx => okI_q h ?_)⟩
  have hx : lowest (bbQ s p t) 0 (nvm s) x := hx
  rw [Rl_nvm h] at hx
  have h1 := lbC_low (s := s) (p := p) (t := t) (s.1 1) 0
  rw [Nat.zero_add] at h1
  exact low_uq h1 (low_cg (fun k hk => bb_bo h hk) hx)
/-- the places of a vow: its persons live there -/
theorem ic_iff (h : Rl D s) {v : Nat} {a : Int32} (hv : v < s.1 1) : icourt s v a ↔ hasP s (nI v) a := by
  have hcv : cl (nI v) = v := nI_clamp (by have := (Rl_n h).2.1; omega)
  obtain ⟨⟨a1, a2, a3, a4⟩, -, -⟩ := h.2.2.2.2.2.2.2.2.1 v hv
  obtain ⟨h1, h2⟩ := Rl_v0 h hv
  obtain ⟨x, hx, ex, cx⟩ := Rl_pn h h1
  obtain ⟨y, hy, ey, cy⟩ := Rl_pn h h2
  unfold icourt hasP laC
  rw [hcv, a1, a2, a3, ex, ey, cx, cy]
  obtain ⟨-, p1, -, -, -, p5⟩ := h.2.1 x hx
  obtain ⟨-, q1, -, -, -, q5⟩ := h.2.1 y hy
  rw [p1, q1, eq_comm (a := a)]
  rcases p5 with ⟨c1, c2⟩ | ⟨c1, c2⟩ <;> rcases q5 with ⟨d1, d2⟩ | ⟨d1, d2⟩ <;> rw [c1, c2, d1, d2] <;> simp
theorem okZ_1 (h : Rl D s) : okZ D 0 (some (aI 1)) (th (stO s 1) 0) := ⟨Rl_th (Rl_stO h), th_32, 1, rfl, fun _ => Or.inr ⟨rfl, rfl⟩⟩
theorem okZ_0 (h : Rl D s) : okZ D 0 (some (aI 0)) (th (stO s 0) 0) := ⟨Rl_th (Rl_stO h), th_32, 0, rfl, fun _ => Or.inl ⟨rfl, rfl⟩⟩
theorem al_hasCause {v a : Int32} (h : Rl D s) : alZ sp_L_hasCause [aR 1 0, aI v, aI a, aR 60 0] sp_X5_hasCause [aR 20 0, aI v, aI a] D s := by
  have hM := Rl_M h
  have hW := Rl_W h
  have hip := Rl_v h (p := v)
  have hir : (0 ≤ a ∧ a < 8) ↔ inR a 0 7 := by rw [rg_iff, lt8]
  refine ⟨rfl, Rl_CI h, fun hn => ⟨1, rfl, hM, hW, f2_1 (fun q => hn (hip.mpr q)) (okZ_th (by decide) h)⟩, fun hp => ⟨fun hn => ⟨2, rfl, hM, hW, f2_2 (hip.mp hp) (fun q => hn (hir.mpr q)) (okZ_th (by decide) h)⟩, fun hr => ?_⟩⟩
  have hip' := hip.mp hp
  have hir' := hir.mp hr
  obtain ⟨q, hq, rfl, hcq⟩ := Rl_vn h hp
  have hic : icourt s (cl (nI q)) a ↔ hasP s (nI q) a := by rw [hcq]; exact ic_iff h hq
  refine ⟨fun hy => ⟨fun _ => ?_, fun hz => absurd hz (by decide)⟩, fun hn => ⟨fun hz => absurd rfl hz, fun _ => ?_⟩⟩
  · exact ⟨0, rfl, hM, hW, f2_0 hip' hir' ⟨fun _ => okZ_1 h, fun q => absurd (hic.mp hy) q⟩⟩
  · exact ⟨0, rfl, hM, hW, f2_0 hip' hir' ⟨fun q => absurd (hic.mpr q) hn, fun _ => okZ_0 h⟩⟩
theorem al_heal {v : Int32} (h : Rl D s) : alV sp_L_heal [aR 1 0, aI v] sp_X5_heal [aR 20 0, aI v] D s := by
  have hM := Rl_M h
  have hW := Rl_W h
  have hip := Rl_v h (p := v)
  refine ⟨rfl, Rl_CI h, fun hn => ⟨1, rfl, hM, hW, f2_1 (fun q => hn (hip.mpr q)) (okV_th h)⟩, fun hp => ?_⟩
  have hip' := hip.mp hp
  obtain ⟨q, hq, rfl, hcq⟩ := Rl_vn h hp
  have hc : (s.2.1 13 (cl (nI q)) 6 = 0 ∧ ¬ s.2.1 13 (cl (nI q)) 5 = 0 ∧ hnC s (cl (nI q)) = 0) ↔ (¬ s.2.1 37 0 (cl (nI q)) = 0 ∧ s.2.1 27 0 (cl (s.2.1 33 0 (cl (nI q)))) = 0 ∧ s.2.1 27 0 (cl (s.2.1 34 0 (cl (nI q)))) = 0 ∧ s.2.1 39 0 (cl (nI q)) = 0 ∧ hdM s (cl (nI q)) = 0) := by
    rw [hcq]
    obtain ⟨⟨a1, a2, a3, a4⟩, ⟨b1, b2, b3, b4⟩, -⟩ := h.2.2.2.2.2.2.2.2.1 q hq
    obtain ⟨h1, h2⟩ := Rl_v0 h hq
    obtain ⟨x, hx, ex, cx⟩ := Rl_pn h h1
    obtain ⟨y, hy, ey, cy⟩ := Rl_pn h h2
    have hl := h.2.2.2.2.2.2.2.2.2.2.1 q hq
    rw [ex, ey, cx, cy] at hl
    rw [a1, a2, b2, b3, (hd_eq h hq).1, ex, ey, cx, cy]
    obtain ⟨-, -, -, -, -, p5⟩ := h.2.1 x hx
    obtain ⟨-, -, -, -, -, q5⟩ := h.2.1 y hy
    constructor
    · rintro ⟨z1, z2, z3⟩
      obtain ⟨l1, l2⟩ := hl z1
      exact ⟨z2, p5.elim (fun z => z.1) (fun z => absurd z.2 l1), q5.elim (fun z => z.1) (fun z => absurd z.2 l2), z1, z3⟩
    · rintro ⟨z1, -, -, z2, z3⟩
      exact ⟨z2, z1, z3⟩
  refine ⟨fun hn => ⟨2, rfl, hM, hW, f2_2 hip' (fun z => hn (hc.mpr z)) (okV_th h)⟩, fun hr => ⟨0, rfl, MI_ag (s := s) (by repeat' (first | (with_reducible refine ag_st ?_ ?_) | (with_reducible refine ag_O ?_) | (with_reducible refine ag_R ?_ ?_) | (with_reducible refine ag_I ?_ ?_) | (with_reducible refine ag_F ?_ ?_) | (with_reducible refine ag_tw ?_ ?_ ?_) | (with_reducible refine ag_die ?_ ?_ ?_) | (with_reducible refine ag_ev ?_ ?_ ?_ _) | (with_reducible exact ag_rf) | (exact rfl) | (exact fun _ => rfl))) hM, WI_ag (s := s) (by repeat' (first | (with_reducible refine ag_st ?_ ?_) | (with_reducible refine ag_O ?_) | (with_reducible refine ag_R ?_ ?_) | (with_reducible refine ag_I ?_ ?_) | (with_reducible refine ag_F ?_ ?_) | (with_reducible refine ag_tw ?_ ?_ ?_) | (with_reducible refine ag_die ?_ ?_ ?_) | (with_reducible refine ag_ev ?_ ?_ ?_ _) | (with_reducible exact ag_rf) | (exact rfl) | (exact fun _ => rfl))) hW, f2_0 hip' (hc.mp hr) ⟨?_, (by first | rfl | (simp [stS_get, stR_get]; done)), rfl⟩⟩⟩
  obtain ⟨h0, hP, hPf, hB, hE, hU, hD, hS, hV, hVf, hVl, hC, hCr, hCf⟩ := h
  refine ⟨R0_ag (s := s) rfl (by repeat' (first | (with_reducible refine ag_st ?_ ?_) | (with_reducible refine ag_O ?_) | (with_reducible refine ag_R ?_ ?_) | (with_reducible refine ag_I ?_ ?_) | (with_reducible refine ag_F ?_ ?_) | (with_reducible refine ag_tw ?_ ?_ ?_) | (with_reducible refine ag_die ?_ ?_ ?_) | (with_reducible refine ag_ev ?_ ?_ ?_ _) | (with_reducible exact ag_rf) | (exact rfl) | (exact fun _ => rfl))) h0, RPs_ag (s := s) rfl (by repeat' (first | (with_reducible refine ag_st ?_ ?_) | (with_reducible refine ag_O ?_) | (with_reducible refine ag_R ?_ ?_) | (with_reducible refine ag_I ?_ ?_) | (with_reducible refine ag_F ?_ ?_) | (with_reducible refine ag_tw ?_ ?_ ?_) | (with_reducible refine ag_die ?_ ?_ ?_) | (with_reducible refine ag_ev ?_ ?_ ?_ _) | (with_reducible exact ag_rf) | (exact rfl) | (exact fun _ => rfl))) hP, RPf_ag (s := s) rfl (by repeat' (first | (with_reducible refine ag_st ?_ ?_) | (with_reducible refine ag_O ?_) | (with_reducible refine ag_R ?_ ?_) | (with_reducible refine ag_I ?_ ?_) | (with_reducible refine ag_F ?_ ?_) | (with_reducible refine ag_tw ?_ ?_ ?_) | (with_reducible refine ag_die ?_ ?_ ?_) | (with_reducible refine ag_ev ?_ ?_ ?_ _) | (with_reducible exact ag_rf) | (exact rfl) | (exact fun _ => rfl))) hPf, RB_ag (s := s) rfl (by repeat' (first | (with_reducible refine ag_st ?_ ?_) | (with_reducible refine ag_O ?_) | (with_reducible refine ag_R ?_ ?_) | (with_reducible refine ag_I ?_ ?_) | (with_reducible refine ag_F ?_ ?_) | (with_reducible refine ag_tw ?_ ?_ ?_) | (with_reducible refine ag_die ?_ ?_ ?_) | (with_reducible refine ag_ev ?_ ?_ ?_ _) | (with_reducible exact ag_rf) | (exact rfl) | (exact fun _ => rfl))) hB, REr_ag (s := s) (by repeat' (first | (with_reducible refine ag_st ?_ ?_) | (with_reducible refine ag_O ?_) | (with_reducible refine ag_R ?_ ?_) | (with_reducible refine ag_I ?_ ?_) | (with_reducible refine ag_F ?_ ?_) | (with_reducible refine ag_tw ?_ ?_ ?_) | (with_reducible refine ag_die ?_ ?_ ?_) | (with_reducible refine ag_ev ?_ ?_ ?_ _) | (with_reducible exact ag_rf) | (exact rfl) | (exact fun _ => rfl))) hE, RUn_ag (s := s) (by repeat' (first | (with_reducible refine ag_st ?_ ?_) | (with_reducible refine ag_O ?_) | (with_reducible refine ag_R ?_ ?_) | (with_reducible refine ag_I ?_ ?_) | (with_reducible refine ag_F ?_ ?_) | (with_reducible refine ag_tw ?_ ?_ ?_) | (with_reducible refine ag_die ?_ ?_ ?_) | (with_reducible refine ag_ev ?_ ?_ ?_ _) | (with_reducible exact ag_rf) | (exact rfl) | (exact fun _ => rfl))) hU, RDs_ag (s := s) (by repeat' (first | (with_reducible refine ag_st ?_ ?_) | (with_reducible refine ag_O ?_) | (with_reducible refine ag_R ?_ ?_) | (with_reducible refine ag_I ?_ ?_) | (with_reducible refine ag_F ?_ ?_) | (with_reducible refine ag_tw ?_ ?_ ?_) | (with_reducible refine ag_die ?_ ?_ ?_) | (with_reducible refine ag_ev ?_ ?_ ?_ _) | (with_reducible exact ag_rf) | (exact rfl) | (exact fun _ => rfl))) hD, RSt_ag (s := s) rfl (by repeat' (first | (with_reducible refine ag_st ?_ ?_) | (with_reducible refine ag_O ?_) | (with_reducible refine ag_R ?_ ?_) | (with_reducible refine ag_I ?_ ?_) | (with_reducible refine ag_F ?_ ?_) | (with_reducible refine ag_tw ?_ ?_ ?_) | (with_reducible refine ag_die ?_ ?_ ?_) | (with_reducible refine ag_ev ?_ ?_ ?_ _) | (with_reducible exact ag_rf) | (exact rfl) | (exact fun _ => rfl))) hS, ?_, ?_, RVl_ag (s := s) rfl (by repeat' (first | (with_reducible refine ag_st ?_ ?_) | (with_reducible refine ag_O ?_) | (with_reducible refine ag_R ?_ ?_) | (with_reducible refine ag_I ?_ ?_) | (with_reducible refine ag_F ?_ ?_) | (with_reducible refine ag_tw ?_ ?_ ?_) | (with_reducible refine ag_die ?_ ?_ ?_) | (with_reducible refine ag_ev ?_ ?_ ?_ _) | (with_reducible exact ag_rf) | (exact rfl) | (exact fun _ => rfl))) hVl, RCs_ag (s := s) rfl (by repeat' (first | (with_reducible refine ag_st ?_ ?_) | (with_reducible refine ag_O ?_) | (with_reducible refine ag_R ?_ ?_) | (with_reducible refine ag_I ?_ ?_) | (with_reducible refine ag_F ?_ ?_) | (with_reducible refine ag_tw ?_ ?_ ?_) | (with_reducible refine ag_die ?_ ?_ ?_) | (with_reducible refine ag_ev ?_ ?_ ?_ _) | (with_reducible exact ag_rf) | (exact rfl) | (exact fun _ => rfl))) hC, RCr_ag (s := s) rfl (by repeat' (first | (with_reducible refine ag_st ?_ ?_) | (with_reducible refine ag_O ?_) | (with_reducible refine ag_R ?_ ?_) | (with_reducible refine ag_I ?_ ?_) | (with_reducible refine ag_F ?_ ?_) | (with_reducible refine ag_tw ?_ ?_ ?_) | (with_reducible refine ag_die ?_ ?_ ?_) | (with_reducible refine ag_ev ?_ ?_ ?_ _) | (with_reducible exact ag_rf) | (exact rfl) | (exact fun _ => rfl))) hCr, RCf_ag (s := s) rfl (by repeat' (first | (with_reducible refine ag_st ?_ ?_) | (with_reducible refine ag_O ?_) | (with_reducible refine ag_R ?_ ?_) | (with_reducible refine ag_I ?_ ?_) | (with_reducible refine ag_F ?_ ?_) | (with_reducible refine ag_tw ?_ ?_ ?_) | (with_reducible refine ag_die ?_ ?_ ?_) | (with_reducible refine ag_ev ?_ ?_ ?_ _) | (with_reducible exact ag_rf) | (exact rfl) | (exact fun _ => rfl))) hCf⟩
  · intro z hz
    have h9 := hV z hz
    unfold RVv at h9 ⊢
    rw [hcq]
    by_cases hzq : z = q
    · subst hzq
      simp [stS_get]
      exact ⟨h9.1, ⟨h9.2.1.1, h9.2.1.2.2⟩, h9.2.2⟩
    · simpa [stS_get, hzq] using h9
  · intro z hz
    have h9 := hVf z hz
    simpa [stS_get] using h9
end Vows

