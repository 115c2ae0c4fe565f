/-! the calls: deaths, vows that turn -/
/-- the vows that a death ends -/
abbrev evE (s : Sg) (v : Nat) (p : Int32) : Prop := s.2.1 13 v 6 = 0 ∧ (p = s.2.1 13 v 0 ∨ p = s.2.1 13 v 1)
theorem evS_13 {s : Sg} {p t : Int32} {v j : Nat} : ∀ K, (evS s p t K).2.1 13 v j = if v < K ∧ evE s v p ∧ j = 6 then 3 else if v < K ∧ evE s v p ∧ j = 7 then t else s.2.1 13 v j
  | 0 => by
    rw [if_neg (fun z => Nat.not_lt_zero _ z.1), if_neg (fun z => Nat.not_lt_zero _ z.1)]
    rfl
  | K + 1 => by
    have hb : evB (evS s p t K) K p ↔ evB s K p := by
      unfold evB
      rw [evS_13 K, evS_13 K, evS_13 K]
      simp
    have ih := evS_13 (s := s) (p := p) (t := t) (v := v) (j := j) K
    rw [evS]
    by_cases hK : evB s K p
    · rw [iteP_t (hb.mpr hK), stS_get, stS_get]
      by_cases hv : v = K
      · subst hv
        by_cases h7 : j = 7
        · subst h7
          rw [if_pos ⟨rfl, rfl, rfl⟩, if_neg (fun z => absurd z.2.2 (by decide)), if_pos ⟨Nat.lt_succ_self _, hK, rfl⟩]
        · rw [if_neg (fun z => h7 z.2.2)]
          by_cases h6 : j = 6
          · subst h6
            rw [if_pos ⟨rfl, rfl, rfl⟩, if_pos ⟨Nat.lt_succ_self _, hK, rfl⟩]
          · rw [if_neg (fun z => h6 z.2.2), if_neg (fun z => h6 z.2.2), if_neg (fun z => h7 z.2.2), ih, if_neg (fun z => h6 z.2.2), if_neg (fun z => h7 z.2.2)]
      · rw [if_neg (fun z => hv z.2.1), if_neg (fun z => hv z.2.1), ih]
        have e : v < K + 1 ↔ v < K := by omega
        simp only [e]
    · rw [iteP_f (fun z => hK (hb.mp z)), ih]
      by_cases hv : v = K
      · subst hv
        rw [if_neg (fun z => hK z.2.1), if_neg (fun z => hK z.2.1), if_neg (fun z => hK z.2.1), if_neg (fun z => hK z.2.1)]
      · have e : v < K + 1 ↔ v < K := by omega
        simp only [e]
def cntE (P : Nat → Prop) : Nat → Nat → Prop
  | 0, n => n = 0
  | k + 1, n => (P k ∧ ∃ m, cntE P k m ∧ n = m + 1) ∨ (¬ P k ∧ cntE P k n)
theorem cntE_u {P : Nat → Prop} : ∀ (k n m : Nat), cntE P k n → cntE P k m → n = m
  | 0, n, m, h, h2 => by rw [h, h2]
  | k + 1, n, m, h, h2 => by
    rcases h with ⟨p, a, ha, rfl⟩ | ⟨p, h⟩
    · rcases h2 with ⟨-, b, hb, rfl⟩ | ⟨p2, h2⟩
      · rw [cntE_u k a b ha hb]
      · exact absurd p p2
    · rcases h2 with ⟨p2, -⟩ | ⟨-, h2⟩
      · exact absurd p2 p
      · exact cntE_u k n m h h2
theorem cntE_c {P Q : Nat → Prop} : ∀ (k n : Nat), (∀ j, j < k → (P j ↔ Q j)) → cntE P k n → cntE Q k n
  | 0, _, _, h => h
  | k + 1, n, hc, h => by
    rcases h with ⟨p, a, ha, e⟩ | ⟨p, h⟩
    · exact Or.inl ⟨(hc k (Nat.lt_succ_self _)).mp p, a, cntE_c k a (fun j hj => hc j (by omega)) ha, e⟩
    · exact Or.inr ⟨fun z => p ((hc k (Nat.lt_succ_self _)).mpr z), cntE_c k n (fun j hj => hc j (by omega)) h⟩
theorem evN_cnt {s : Sg} {p t : Int32} : ∀ (K n : Nat), cntE (fun v => evE s v p) K n → evN s p t K = nI n
  | 0, n, h => by rw [h]; rfl
  | K + 1, n, h => by
    have hb : evB (evS s p t K) K p ↔ evE s K p := by
      unfold evB
      rw [evS_13 K, evS_13 K, evS_13 K]
      simp
    rw [evN]
    rcases h with ⟨q, a, ha, rfl⟩ | ⟨q, h⟩
    · rw [iteP_t (hb.mpr q), evN_cnt K a ha, nIs]
    · rw [iteP_f (fun z => q (hb.mp z)), evN_cnt K n h]
section Do2
variable {t : Nat} {fa mo : Nat → Nat} {T : Nat → Nat → Nat} {s s' : Sg} {X : Xt} {k ho ri od ba li : Nat}
/-- vows are others, in class and law -/
theorem Rg_vw (h : Rg t fa mo T (rows s) s) (hn : s'.1 = s.1) (e0 : ∀ a, s'.2.1 13 a 0 = s.2.1 13 a 0) (e1 : ∀ a, s'.2.1 13 a 1 = s.2.1 13 a 1) (eo : ∀ a b c, ¬ a = 13 → ¬ a = 24 → ¬ a = 25 → s'.2.1 a b c = s.2.1 a b c) (hV : RV (rows s') s') : Rg (t + 1) fa mo T (rows s') s' := by
  obtain ⟨h0, hP, h2, h3, h4, h5, h6⟩ := Rg_mono (t2 := t + 1) (Nat.le_succ t) h
  have hn16 := h0.2.2.2.1
  exact ⟨R0_fr (r := rows s) hn e0 e1 (fun _ => eo _ _ _ (by decide) (by decide) (by decide)) (eo _ _ _ (by decide) (by decide) (by decide)) (fun _ => eo _ _ _ (by decide) (by decide) (by decide)) h0,
    RPe_fr (r := rows s) (by rw [hn]) (fun _ _ => eo _ _ _ (by decide) (by decide) (by decide)) (fun _ _ => eo _ _ _ (by decide) (by decide) (by decide)) (fun _ _ => eo _ _ _ (by decide) (by decide) (by decide)) hn16.1 hP, hV,
    RC_fr (r := rows s) (by rw [hn]) (by rw [hn]) (fun _ _ => eo _ _ _ (by decide) (by decide) (by decide)) (fun _ _ => eo _ _ _ (by decide) (by decide) (by decide)) (fun _ _ => eo _ _ _ (by decide) (by decide) (by decide)) (fun _ _ => eo _ _ _ (by decide) (by decide) (by decide)) (fun _ _ => eo _ _ _ (by decide) (by decide) (by decide)) (fun _ _ => eo _ _ _ (by decide) (by decide) (by decide)) (fun _ _ => eo _ _ _ (by decide) (by decide) (by decide)) (fun _ _ => eo _ _ _ (by decide) (by decide) (by decide)) hn16.2.2 h3,
    RF9_fr (r := rows s) (fun _ _ => eo _ _ _ (by decide) (by decide) (by decide)) (fun _ => eo _ _ _ (by decide) (by decide) (by decide)) (fun _ => eo _ _ _ (by decide) (by decide) (by decide)) h4, RD_fr (r := rows s) (fun _ _ => eo _ _ _ (by decide) (by decide) (by decide)) (fun _ => eo _ _ _ (by decide) (by decide) (by decide)) h5, RS_fr (by rw [hn]) (fun _ _ => eo _ _ _ (by decide) (by decide) (by decide)) h6⟩
/-- a vow's parts -/
def Vp (s : Sg) (k one oth pl lk st la : Nat) : Prop := (one < s.1 0 ∧ oth < s.1 0 ∧ pl < 8 ∧ lk < 2 ∧ st < 4 ∧ la < 16) ∧ (s.2.1 13 k 0 = nI one ∧ s.2.1 13 k 1 = nI oth ∧ s.2.1 13 k 2 = nI pl ∧ s.2.1 13 k 5 = nI lk ∧ s.2.1 13 k 6 = nI st ∧ s.2.1 13 k 4 = nI la) ∧
  s.2.1 24 0 k = nI (pkV one oth pl lk st la) ∧ s.2.1 25 0 k = s.2.1 13 k 3 ∧ s.2.1 25 0 (16 + k) = s.2.1 13 k 7 ∧ (st = 0 → s.2.1 12 one 5 = 1 ∧ s.2.1 12 oth 5 = 1)
theorem Rg_v (h : Rg t fa mo T (rows s) s) (hk : k < s.1 1) : ∃ one oth pl lk st la : Nat, Vp s k one oth pl lk st la := h.2.2.1 k hk
theorem Vp_vR {one oth pl lk st la : Nat} (hn : s.1 0 ≤ 16) (h : Vp s k one oth pl lk st la) : vR s k one oth pl lk st la := ⟨⟨by have := h.1.1; omega, by have := h.1.2.1; omega, h.1.2.2⟩, h.2.2.1⟩
/-- one vow turns -/
theorem Rg_turn {one oth pl lk st la w d : Nat} (h : Rg t fa mo T (rows s) s) (hk : k < s.1 1) (hw : 0 < w ∧ w < 4) (hv : Vp s k one oth pl lk st la) (hd : s.2.1 30 0 0 = nI d) :
    Rg (t + 1) fa mo T (rows (stS (stS (chV one oth pl lk st la w s k) 13 k 6 (nI w)) 13 k 7 (nI d))) (stS (stS (chV one oth pl lk st la w s k) 13 k 6 (nI w)) 13 k 7 (nI d)) := by
  have hn := Rg_n h
  refine Rg_vw h rfl (fun a => ?_) (fun a => ?_) (fun a b c h1 h2 h3 => ?_) (fun j hj => ?_)
  · rw [stS_get, if_neg (fun z => absurd z.2.2 (by decide)), stS_get, if_neg (fun z => absurd z.2.2 (by decide))]; rfl
  · rw [stS_get, if_neg (fun z => absurd z.2.2 (by decide)), stS_get, if_neg (fun z => absurd z.2.2 (by decide))]; rfl
  · unfold chV
    rw [stS_get, if_neg (fun z => h1 z.1), stS_get, if_neg (fun z => h1 z.1), stS_get, if_neg (fun z => h3 z.1), stS_get, if_neg (fun z => h2 z.1)]
  · by_cases e : j = k
    · subst e
      obtain ⟨q1, q2, q3, q4, q5, q6⟩ := hv
      refine ⟨one, oth, pl, lk, w, la, ⟨q1.1, q1.2.1, q1.2.2.1, q1.2.2.2.1, hw.2, q1.2.2.2.2.2⟩, ⟨?_, ?_, ?_, ?_, ?_, ?_⟩, ?_, ?_, ?_, fun z => by omega⟩
      · rw [stS_get, if_neg (by omega), stS_get, if_neg (by omega)]; exact q2.1
      · rw [stS_get, if_neg (by omega), stS_get, if_neg (by omega)]; exact q2.2.1
      · rw [stS_get, if_neg (by omega), stS_get, if_neg (by omega)]; exact q2.2.2.1
      · rw [stS_get, if_neg (by omega), stS_get, if_neg (by omega)]; exact q2.2.2.2.1
      · rw [stS_get, if_neg (by omega), stS_get, if_pos ⟨rfl, rfl, rfl⟩]
      · rw [stS_get, if_neg (by omega), stS_get, if_neg (by omega)]; exact q2.2.2.2.2.2
      · exact if_pos ⟨rfl, rfl, rfl⟩
      · rw [stS_get, if_neg (by omega), stS_get, if_neg (by omega)]
        show (chV one oth pl lk st la w s j).2.1 25 0 j = s.2.1 13 j 3
        unfold chV
        rw [stS_get, if_neg (by omega)]
        exact q4
      · rw [stS_get, if_pos ⟨rfl, rfl, rfl⟩]
        show (chV one oth pl lk st la w s j).2.1 25 0 (16 + j) = _
        unfold chV
        rw [stS_get, if_pos ⟨rfl, rfl, rfl⟩]
        exact hd
    · have h9 := h.2.2.1 j hj
      have hj' : j < s.1 1 := hj
      have o : ∀ c, (stS (stS (chV one oth pl lk st la w s k) 13 k 6 (nI w)) 13 k 7 (nI d)).2.1 13 j c = s.2.1 13 j c := fun c => by rw [stS_get, if_neg (fun z => e z.2.1), stS_get, if_neg (fun z => e z.2.1)]; rfl
      have o24 : rows (stS (stS (chV one oth pl lk st la w s k) 13 k 6 (nI w)) 13 k 7 (nI d)) 24 j = rows s 24 j := by
        show (stS (stS s 24 0 k (nI (pkV one oth pl lk w la))) 25 0 (16 + k) (s.2.1 30 0 0)).2.1 24 0 j = _
        rw [stS_get, if_neg (by omega), stS_get, if_neg (by omega)]
      have o25 : ∀ i, ¬ i = 16 + k → rows (stS (stS (chV one oth pl lk st la w s k) 13 k 6 (nI w)) 13 k 7 (nI d)) 25 i = rows s 25 i := fun i hi => by
        show (stS (stS s 24 0 k (nI (pkV one oth pl lk w la))) 25 0 (16 + k) (s.2.1 30 0 0)).2.1 25 0 i = _
        rw [stS_get, if_neg (by omega)]
        rfl
      unfold V1 at h9 ⊢
      rw [o24, o25 j (by omega), o25 (16 + j) (by omega)]
      simp only [o]
      exact h9
theorem die_1 (hR : Rl t s) (hk : ¬ k < s.1 0) (hk2 : k < 100) : sp_L_does [aR 1 0, aI 5, aI (nI k), aI 0, aI 0, aI 0] s (Dn (-3000000) t) X :=
  do_5 ⟨Rl_CI hR, fun _ => ⟨rfl, hR⟩, fun z => absurd ((iCs hR (by decide) hk2).mp z) hk⟩
theorem die_3 (hR : Rl t s) (hk : k < s.1 0) (hc : ¬ ¬ s.2.1 12 k 5 = 0) : sp_L_does [aR 1 0, aI 5, aI (nI k), aI 0, aI 0, aI 0] s (Dn (-1000000) t) X := by
  have := Rl_n hR
  refine do_5 ⟨Rl_CI hR, fun z => absurd ((iCs hR (by decide) (by omega)).mpr hk) z, fun _ => ?_⟩
  rw [clN (by omega)]
  exact ⟨fun _ => ⟨rfl, hR⟩, fun z => absurd z hc⟩
/-- s: as it was; z: the law has told the death and ended the vows -/
theorem die_0 {z : Sg} {n d : Nat} (h : Rg t fa mo T (rows s) s) (hk : k < s.1 0) (hli : li = 1) (hp : Pp fa mo s k ho ri od ba li) (hd : s.2.1 1 0 7 = nI d) (hn1 : z.1 = s.1) (hz : ∀ a b c, ¬ (a = 20 ∧ b = 0 ∧ c = k) → ¬ (a = 24 ∧ b = 0) → ¬ (a = 25 ∧ b = 0) → z.2.1 a b c = s.2.1 a b c)
    (hz20 : z.2.1 20 0 k = nI (pkP ho ri ba 1 (fa k) (mo k))) (hc : cntE (fun v => evE s v (nI k)) (s.1 1) n)
    (hzv : ∀ v, v < s.1 1 → z.2.1 25 0 v = s.2.1 25 0 v ∧ (evE s v (nI k) → z.2.1 25 0 (16 + v) = nI d ∧ ∀ one oth pl lk st la, Vp s v one oth pl lk st la → z.2.1 24 0 v = nI (pkV one oth pl lk 3 la)) ∧ (¬ evE s v (nI k) → z.2.1 25 0 (16 + v) = s.2.1 25 0 (16 + v) ∧ z.2.1 24 0 v = s.2.1 24 0 v)) :
    sp_L_does [aR 1 0, aI 5, aI (nI k), aI 0, aI 0, aI 0] z (Dn (nI n) (t + 1)) X := by
  have hn := Rg_n h
  have ck : cl (nI k) = k := clN (by omega)
  have cz : ∀ a b c, a < 20 → z.2.1 a b c = s.2.1 a b c := fun a b c ha => hz a b c (by omega) (by omega) (by omega)
  have hCz : CI z := CI_fr hn1 (fun _ => cz _ _ _ (by decide)) (fun _ => cz _ _ _ (by decide)) (fun _ => cz _ _ _ (by decide)) (Rg_CI h)
  have n0 : z.1 0 = s.1 0 := by rw [hn1]
  have n1 : z.1 1 = s.1 1 := by rw [hn1]
  refine do_5 ⟨hCz, fun w => absurd ((iC_N (by omega) (by omega)).mpr (by omega)) w, fun _ => ?_⟩
  rw [ck]
  obtain ⟨q1, q2, q3, q4, q5, q6⟩ := hp
  have a1 : ¬ z.2.1 12 k 5 = 0 := by rw [cz _ _ _ (by decide), q2.2.2.2.2, hli]; decide
  refine ⟨fun w => absurd a1 w, fun _ => ?_⟩
  rw [cz 1 0 7 (by decide), hd, n1]
  obtain ⟨y0, hy0⟩ : ∃ y0, y0 = stS z 12 k 5 0 := ⟨_, rfl⟩
  rw [← hy0]
  have g13 : ∀ v c, y0.2.1 13 v c = s.2.1 13 v c := fun v c => by rw [hy0, stS_get, if_neg (by omega)]; exact cz 13 v c (by decide)
  have eE : ∀ v, evE y0 v (nI k) ↔ evE s v (nI k) := fun v => by unfold evE; rw [g13, g13, g13]
  rw [evN_cnt (s := y0) (p := nI k) (t := nI d) (s.1 1) n (cntE_c _ _ (fun v _ => (eE v).symm) hc)]
  obtain ⟨y, hy⟩ : ∃ y, y = evS y0 (nI k) (nI d) (s.1 1) := ⟨_, rfl⟩
  rw [← hy]
  have y1 : y.1 = s.1 := by rw [hy, evS_1, hy0]; exact hn1
  have yo : ∀ a b c, ¬ a = 13 → ¬ (a = 12 ∧ b = k ∧ c = 5) → y.2.1 a b c = z.2.1 a b c := fun a b c h1 h2 => by rw [hy, evS_o h1, hy0, stS_get, if_neg h2]
  have y13 : ∀ v c, v < s.1 1 → y.2.1 13 v c = if evE s v (nI k) ∧ c = 6 then 3 else if evE s v (nI k) ∧ c = 7 then nI d else s.2.1 13 v c := fun v c hv => by
    rw [hy, evS_13]
    simp only [eE, hv, true_and, g13]
  have y13o : ∀ v c, ¬ c = 6 → ¬ c = 7 → y.2.1 13 v c = s.2.1 13 v c := fun v c h6 h7 => by
    rw [hy, evS_13, if_neg (fun w => h6 w.2.2), if_neg (fun w => h7 w.2.2), g13]
  refine ⟨rfl, fa, mo, T, ?_⟩
  obtain ⟨h0, hP, h2, h3, h4, h5, h6⟩ := Rg_mono (t2 := t + 1) (Nat.le_succ t) h
  have yz : ∀ a b c, ¬ a = 13 → ¬ a = 12 → ¬ a = 20 → ¬ a = 24 → ¬ a = 25 → y.2.1 a b c = s.2.1 a b c := fun a b c h1 h2 h3 h4 h5 => (yo a b c h1 (fun w => h2 w.1)).trans (hz a b c (fun w => h3 w.1) (fun w => h4 w.1) (fun w => h5 w.1))
  have y12 : ∀ j c, ¬ (j = k ∧ c = 5) → y.2.1 12 j c = s.2.1 12 j c := fun j c hj => (yo 12 j c (by decide) (fun w => hj w.2)).trans (cz _ _ _ (by decide))
  have y125 : y.2.1 12 k 5 = 0 := by rw [hy, evS_o (by decide), hy0]; exact if_pos ⟨rfl, rfl, rfl⟩
  have y20 : ∀ j, ¬ j = k → y.2.1 20 0 j = s.2.1 20 0 j := fun j hj => (yo 20 0 j (by decide) (by omega)).trans (hz 20 0 j (by omega) (by omega) (by omega))
  have y21 : ∀ j, y.2.1 21 0 j = s.2.1 21 0 j := fun j => yz 21 0 j (by decide) (by decide) (by decide) (by decide) (by decide)
  refine ⟨R0_fr (r := rows s) y1 (fun _ => y13o _ _ (by decide) (by decide)) (fun _ => y13o _ _ (by decide) (by decide)) (fun _ => yz _ _ _ (by decide) (by decide) (by decide) (by decide) (by decide)) (yz _ _ _ (by decide) (by decide) (by decide) (by decide) (by decide)) (fun _ => yz _ _ _ (by decide) (by decide) (by decide) (by decide) (by decide)) h0, ⟨fun j hj => ?_, fun j hj hj2 => ?_⟩, fun v hv => ?_,
    RC_fr (r := rows s) (by rw [y1]) (by rw [y1]) (fun _ _ => yz _ _ _ (by decide) (by decide) (by decide) (by decide) (by decide)) (fun _ _ => yz _ _ _ (by decide) (by decide) (by decide) (by decide) (by decide)) (fun _ _ => yz _ _ _ (by decide) (by decide) (by decide) (by decide) (by decide)) (fun _ _ => yz _ _ _ (by decide) (by decide) (by decide) (by decide) (by decide)) (fun _ _ => yz _ _ _ (by decide) (by decide) (by decide) (by decide) (by decide)) (fun _ _ => yz _ _ _ (by decide) (by decide) (by decide) (by decide) (by decide)) (fun _ _ => yz _ _ _ (by decide) (by decide) (by decide) (by decide) (by decide)) (fun _ _ => yz _ _ _ (by decide) (by decide) (by decide) (by decide) (by decide)) hn.2.2 h3,
    RF9_fr (r := rows s) (fun _ _ => yz _ _ _ (by decide) (by decide) (by decide) (by decide) (by decide)) (fun _ => yz _ _ _ (by decide) (by decide) (by decide) (by decide) (by decide)) (fun _ => yz _ _ _ (by decide) (by decide) (by decide) (by decide) (by decide)) h4, RD_fr (r := rows s) (fun _ _ => yz _ _ _ (by decide) (by decide) (by decide) (by decide) (by decide)) (fun _ => yz _ _ _ (by decide) (by decide) (by decide) (by decide) (by decide)) h5, RS_fr (by rw [y1]) (fun _ _ => yz _ _ _ (by decide) (by decide) (by decide) (by decide) (by decide)) h6⟩
  · rw [y1] at hj
    obtain ⟨w1, w2, w3⟩ := hP.1 j hj
    refine ⟨w1, w2, ?_⟩
    by_cases e : j = k
    · subst e
      refine ⟨ho, ri, od, ba, 0, ⟨q1.1, q1.2.1, q1.2.2.1, q1.2.2.2.1, by decide⟩, ⟨by rw [y12 _ _ (by omega)]; exact q2.1, by rw [y12 _ _ (by omega)]; exact q2.2.1, by rw [y12 _ _ (by omega)]; exact q2.2.2.1, by rw [y12 _ _ (by omega)]; exact q2.2.2.2.1, y125⟩, ?_, ?_, ?_, ?_⟩
      · exact (yo 20 0 j (by decide) (by omega)).trans hz20
      · rw [y12 _ _ (by omega)]; exact (y21 j).trans q4
      · rw [y12 _ _ (by omega)]; exact q5
      · show (od = 0 ∧ y.2.1 21 0 (16 + j) = -1) ∨ (od = 1 ∧ ∃ d, d < 2 ^ 30 ∧ y.2.1 21 0 (16 + j) = nI d)
        rw [y21]; exact q6
    · unfold P1 rows at w3 ⊢
      rw [y12 j 0 (by omega), y12 j 1 (by omega), y12 j 2 (by omega), y12 j 3 (by omega), y12 j 4 (by omega), y12 j 5 (by omega), y20 j e, y21, y21]
      exact w3
  · rw [y1] at hj
    exact (y21 _).trans (hP.2 j hj hj2)
  · rw [y1] at hv
    obtain ⟨z25, zt, zf⟩ := hzv v hv
    obtain ⟨one, oth, pl, lk, st, la, hvp⟩ := Rg_v h hv
    have hvp2 := hvp
    obtain ⟨v1, v2, v3, v4, v5, v6⟩ := hvp
    have r24 : rows y 24 v = z.2.1 24 0 v := yo 24 0 v (by decide) (by omega)
    have r25 : ∀ i, rows y 25 i = z.2.1 25 0 i := fun i => yo 25 0 i (by decide) (by omega)
    by_cases hE : evE s v (nI k)
    · obtain ⟨zt1, zt2⟩ := zt hE
      refine ⟨one, oth, pl, lk, 3, la, ⟨by rw [y1]; exact v1.1, by rw [y1]; exact v1.2.1, v1.2.2.1, v1.2.2.2.1, by decide, v1.2.2.2.2.2⟩, ⟨by rw [y13o v 0 (by decide) (by decide)]; exact v2.1, by rw [y13o v 1 (by decide) (by decide)]; exact v2.2.1, by rw [y13o v 2 (by decide) (by decide)]; exact v2.2.2.1, by rw [y13o v 5 (by decide) (by decide)]; exact v2.2.2.2.1, by rw [y13 v 6 hv, if_pos ⟨hE, rfl⟩]; rfl, by rw [y13o v 4 (by decide) (by decide)]; exact v2.2.2.2.2.2⟩, by rw [r24]; exact zt2 _ _ _ _ _ _ hvp2, ?_, ?_, fun w => absurd w (by decide)⟩
      · rw [r25, z25, y13o v 3 (by decide) (by decide)]; exact v4
      · rw [r25, zt1, y13 v 7 hv, if_neg (fun w => absurd w.2 (by decide)), if_pos ⟨hE, rfl⟩]
    · obtain ⟨zf1, zf2⟩ := zf hE
      have g : ∀ c, y.2.1 13 v c = s.2.1 13 v c := fun c => by rw [y13 v c hv, if_neg (fun w => hE w.1), if_neg (fun w => hE w.1)]
      refine ⟨one, oth, pl, lk, st, la, ⟨by rw [y1]; exact v1.1, by rw [y1]; exact v1.2.1, v1.2.2⟩, by simp only [g]; exact v2, by rw [r24, zf2]; exact v3, by rw [r25, z25, g]; exact v4, by rw [r25, zf1, g]; exact v5, fun w => ?_⟩
      have hs0 : s.2.1 13 v 6 = 0 := by rw [v2.2.2.2.2.1, w]; rfl
      have n1 : ¬ one = k := fun e => hE ⟨hs0, Or.inl (by rw [v2.1, e])⟩
      have n2 : ¬ oth = k := fun e => hE ⟨hs0, Or.inr (by rw [v2.2.1, e])⟩
      rw [y12 one 5 (fun e => n1 e.1), y12 oth 5 (fun e => n2 e.1)]
      exact v6 w
end Do2

