/-! constructors called; a cause made -/
def op_callI (sp : Spc) (n w nx : Nat) : Sem := fun U k _ X u L st s => popK n [] st (fun as st' => match as with
  | .inl (.inr _) :: _ => u + w ≤ U ∧ catS st' ≤ 8 ∧ sp as s (fun r s' => r = none ∧ k nx (u + w) L st' s') X
  | _ => False)
section NewC
variable {own : String} {cc : ByteArray} {nL d U : Nat} {ret : Option FieldType} {pc nx : Nat}
theorem ok_invokeinit {y : MethodName} {bytes : ByteArray} {nL' d' w n idx : Nat} {sp : Spc} (hM : AMet y bytes nL' none d' w sp)
    (h1 : Cond.methodLink own idx y ∈ TB) (h2 : Cond.instanceMethod y ∈ TB) (h3 : Cond.initialized y.cls ∈ TB) (h4 : Cond.code y bytes nL' none ∈ TB) (hy1 : y.name = "<init>")
    (hy : y.cls ≠ "java/lang/invoke/MethodHandle" ∧ y.cls ≠ "java/lang/invoke/VarHandle" ∧ (parseMethodDescriptor y.desc).map (fun d => d.parameters.length) = some n) (hdd : d' + 1 ≤ d) (hl' : nL' ≤ 19)
    (hd : decode cc pc = .ok (.invokespecial idx, 3)) (hn : pc + 3 = nx) : Snd own cc nL d U ret pc (op_callI sp (n + 1) w nx) := by
  intro g p l e R s m args below meth c w0 hC ad K N X Q hQ k hk u L st s0 h
  subst hn
  intro H locs ls hP hS hl
  obtain ⟨as, st', h, e1, e2⟩ := popK_ok h
  rw [List.append_nil] at h
  split at h
  · rename_i r tl
    obtain ⟨hu, hcat, hsp⟩ := h
    have hC' := hC
    obtain ⟨hF, hGS, hlk, hret, hR, hl0, htab⟩ := hC'
    subst hR
    have ht : ∀ w ∈ TB, w.before args s = true := fun w hw => hF.2.2.2.2 w (List.mem_cons_of_mem _ hw)
    have hG : GoodIn (w0 :: TB) (wsM y bytes nL' none) := TB_in (by
      intro w hw
      simp only [wsM, List.mem_cons] at hw
      rcases hw with rfl | hw
      · exact h4
      · exact hw)
    refine run_ok hC hQ hu (vx_runI (b := (ad r.1 r.2)) (As := tl.map (cv ad)) (rest := st'.map (cv ad)) hF (hM l hl0 g ad K _ s0 _ X hsp) (cwI n hF.2.2.2.2 hG rfl rfl rfl (ht _ h3) (ht _ h1) (ht _ h2) hy1 hy (rm_fit hdd hl'))
      ⟨GP_blind, fun U9 hU hW => ⟨rfl, GS_moved hGS hW (locs := locs) (by rw [hU]; exact hS), by rw [hU]; exact hP⟩⟩ rfl (by rw [List.length_map]; simpa using e2) hl.1 ?_ (lv_room (by rw [catS_ok]; exact hcat)) hd
      ⟨by show u * cU + w * cU ≤ U * cU; rw [← Nat.add_mul]; exact Nat.mul_le_mul_right _ hu, by show u * sU + w * sU ≤ U * sU; rw [← Nat.add_mul]; exact Nat.mul_le_mul_right _ hu⟩) hS ?_
    · show st.map (cv ad) = (tl.map (cv ad)).reverse ++ .ref (ad r.1 r.2) :: st'.map (cv ad)
      rw [e1, List.map_append, List.map_reverse]
      simp [cv, cL]
    · intro v s' H1 locs1 hN hP1 hS1
      obtain ⟨rfl, hN⟩ := hN
      exact hk _ _ _ _ _ hN H1 locs1 ls hP1 hS1 hl
  · exact h.elim
/-- a cause, with its rows -/
def newC (s : Sg) (x y : Int32) : Sg := stC (s.1, fun a b c => if b = s.1 2 ∧ 14 ≤ a ∧ a ≤ 17 then (if a = 14 then (if c = 0 then x else if c = 1 then y else if c = 3 then 1 else 0) else if a = 15 then 0 else if c < 3 then -1 else 0) else s.2.1 a b c, s.2.2) 8 1
theorem newC_1 {s : Sg} {x y : Int32} {c : Nat} (h : ¬ c = 8) : (newC s x y).1 c = s.1 c := stC_ne h
theorem newC_2 {s : Sg} {x y : Int32} {a b c : Nat} (h : ¬ (b = s.1 2 ∧ 14 ≤ a ∧ a ≤ 17)) : (newC s x y).2.1 a b c = s.2.1 a b c := if_neg h
theorem newC_14 {s : Sg} {x y : Int32} {c : Nat} : (newC s x y).2.1 14 (s.1 2) c = if c = 0 then x else if c = 1 then y else if c = 3 then 1 else 0 := by
  show (if _ then _ else _) = _
  rw [if_pos ⟨rfl, by decide, by decide⟩, if_pos rfl]
theorem newC_15 {s : Sg} {x y : Int32} : (newC s x y).2.1 15 (s.1 2) = fun _ => 0 := by
  funext c
  show (if _ then _ else _) = _
  rw [if_pos ⟨rfl, by decide, by decide⟩, if_neg (by decide), if_pos rfl]
theorem newC_16 {s : Sg} {x y : Int32} : (newC s x y).2.1 16 (s.1 2) = fR (fun _ => 0) 3 (-1) := by
  funext c
  show (if _ then _ else _) = _
  rw [if_pos ⟨rfl, by decide, by decide⟩, if_neg (by decide), if_neg (by decide)]
  rfl
theorem newC_17 {s : Sg} {x y : Int32} : (newC s x y).2.1 17 (s.1 2) = fR (fun _ => 0) 3 (-1) := by
  funext c
  show (if _ then _ else _) = _
  rw [if_pos ⟨rfl, by decide, by decide⟩, if_neg (by decide), if_neg (by decide)]
  rfl
theorem rf_row {x k t : Nat} {o : Option Nat} (h : rf x k = some (t, o)) (h1 : 14 ≤ t) (h2 : t ≤ 17) : x = 14 ∧ o = none := by
  unfold rf at h
  split at h <;> first
    | (cases h; first | exact ⟨rfl, rfl⟩ | (exfalso; omega))
    | (split at h
       · cases h
       · cases h; exfalso; omega)
    | cases h
def adC (ad : Nat → Nat → Nat) (n q q1 q2 q3 : Nat) : Nat → Nat → Nat := adN (adN (adN (adN ad 14 n q) 15 n q1) 16 n q2) 17 n q3
theorem adC_old {ad : Nat → Nat → Nat} {n q q1 q2 q3 t i : Nat} (h : ¬ (i = n ∧ 14 ≤ t ∧ t ≤ 17)) : adC ad n q q1 q2 q3 t i = ad t i := by
  unfold adC
  rw [adN_old (by omega), adN_old (by omega), adN_old (by omega), adN_old (by omega)]
theorem adC_14 {ad : Nat → Nat → Nat} {n q q1 q2 q3 : Nat} : adC ad n q q1 q2 q3 14 n = q := by unfold adC; rw [adN_old (by omega), adN_old (by omega), adN_old (by omega), adN_new]
theorem adC_15 {ad : Nat → Nat → Nat} {n q q1 q2 q3 : Nat} : adC ad n q q1 q2 q3 15 n = q1 := by unfold adC; rw [adN_old (by omega), adN_old (by omega), adN_new]
theorem adC_16 {ad : Nat → Nat → Nat} {n q q1 q2 q3 : Nat} : adC ad n q q1 q2 q3 16 n = q2 := by unfold adC; rw [adN_old (by omega), adN_new]
theorem adC_17 {ad : Nat → Nat → Nat} {n q q1 q2 q3 : Nat} : adC ad n q q1 q2 q3 17 n = q3 := adN_new
def op_newC (i1 i2 nx : Nat) : Sem := fun U k _ _ u L st s => match getL L i1, getL L i2 with
  | some (.inl x), some (.inl y) => u + 4 ≤ U ∧ s.1 8 = 0 ∧ s.1 11 = 0 ∧ s.1 14 = 0 ∧ catS st ≤ 7 ∧ lvs s st ∧ lvK s L (fun L' => k nx (u + 4) L' (aR 14 (s.1 2) :: st) (newC s x y))
  | _, _ => False
set_option maxHeartbeats 1000000 in
theorem ok_newC {ik ic i1 i2 : Nat} {q1 q2 : Fin 4} (hi1 : (q1 : Nat) = i1) (hi2 : (q2 : Nat) = i2) (hk1 : Cond.classLink own ik RX0 ∈ TB) (hk2 : Cond.instantiable RX0 7 ∈ TB) (hk3 : Cond.initialized RX0 ∈ TB)
    (h1 : Cond.methodLink own ic yX0_init ∈ TB) (h2 : Cond.instanceMethod yX0_init ∈ TB) (h4 : Cond.code yX0_init cX0_init 3 none ∈ TB) (hdd : 2 ≤ d)
    (d0 : decode cc pc = .ok (.new ik, 3)) (d3 : decode cc (pc + 3) = .ok (.dup, 1)) (d4 : decode cc (pc + 4) = .ok (.iload_n q1, 1)) (d5 : decode cc (pc + 5) = .ok (.iload_n q2, 1)) (d6 : decode cc (pc + 6) = .ok (.invokespecial ic, 3)) (hn : pc + 9 = nx) : GSnd own cc nL d U ret pc (op_newC i1 i2 nx) := by
  intro g p l e R s m args below meth c w0 hC ad0 K0 N X Q hQ k hk u L st s1 h ad K hE
  subst hn
  intro H locs ls hP hS hl
  unfold op_newC at h
  split at h
  · rename_i x y hg1 hg2
    obtain ⟨hu, h8, h11, h14, hcat, hlv, hlk9⟩ := h
    obtain ⟨L', hk9, hsub⟩ := lvK_ok hlk9
    obtain ⟨hF, hGS, hlk, hret, hR, hl0, htab⟩ := hC
    subst hR
    have ht : ∀ w ∈ TB, w.before args s = true := fun w hw => hF.2.2.2.2 w (List.mem_cons_of_mem _ hw)
    have hS9 : va_S (gA g) H H locs := ⟨Nat.le_refl _, fun _ _ _ => rfl, hS.2.2⟩
    have hum : u * 24 + 4 * 24 ≤ U * 24 := by rw [← Nat.add_mul]; exact Nat.mul_le_mul_right _ hu
    refine va_new (T := TX0) (N := 7) (ci := 2) (H0 := H) (fs := [.int 0, .int 0, .int 0, .int 0, .null, .null, .null]) hF.1 hF.2.1 ht in_X0 tyX0 tyX0_ok hF.2.2.2.1 (ht _ hk1) (ht _ hk2) (ht _ hk3) hGS.1 hP.1 hP.2.1 hS9 (fun q hq => Nat.le_trans hP.2.2.2.1 hq) rfl (by intro j hj; match j, hj with | 0, _ => rfl | 1, _ => rfl | 2, _ => rfl | 3, _ => rfl | 4, _ => rfl | 5, _ => rfl | 6, _ => rfl) ?_ ?_ d0 ?_
    · show u * 4 + 1 ≤ U * 4
      omega
    · show u * 24 + 7 ≤ U * 24
      omega
    · intro q H1 hP1 hD1 hS1
      have hS2 : va_S (gA g) s.heap H1 locs := ⟨Nat.le_trans hS.1 hS1.1, fun z h1 h2 => (hS1.2.1 z (Nat.lt_of_lt_of_le h1 hS.1) h2).trans (hS.2.1 z h1 h2), hS1.2.2⟩
      have hRP : RP g (gws g ad K s1) [(q, .inr (2, [.int 0, .int 0, .int 0, .int 0, .null, .null, .null]))] H1 := ⟨hP1, hD1, Nat.le_trans hP.2.2.2.1 hS1.1⟩
      refine lv_dup hF.1 hF.2.1 d3 rfl ?_
      refine lv_iload_n hF.1 hF.2.1 d4 hi1 (getL_at hl hg1) ?_
      refine lv_iload_n hF.1 hF.2.1 d5 hi2 (getL_at hl hg2) ?_
      have hG : GoodIn (w0 :: TB) (wsM yX0_init cX0_init 3 none) := TB_in (by
        intro w hw
        simp only [wsM, List.mem_cons] at hw
        rcases hw with rfl | hw
        · exact h4
        · exact hw)
      refine W.widen (k := (u + 1) * cU) (n := (u + 1) * sU) ?_ ?_ ?_
      · show u * 4 + 1 ≤ (u + 1) * 4
        omega
      · show u * 24 + 7 ≤ (u + 1) * 24
        omega
      have hsp : rs_X0_init g [aA q, aI x, aI y] [(q, .inr (2, [.int 0, .int 0, .int 0, .int 0, .null, .null, .null]))] (fun r w' => r = none ∧ ∃ q1 q2 q3 : Nat, w' = [(q, .inr (2, [.int x, .int y, .int 0, .int 1, .ref q1, .ref q2, .ref q3])), (q1, .inl (g.2.1 0, (7, .inl (fun _ => 0)))), (q2, .inl (g.2.1 0, (3, .inl (fR (fun _ => 0) 3 (-1))))), (q3, .inl (g.2.1 0, (3, .inl (fR (fun _ => 0) 3 (-1)))))]) := ⟨rfl, fun q1 q2 q3 => ⟨rfl, q1, q2, q3, rfl⟩⟩
      refine run_okR (w9 := 3) (vx_runI (b := q) (As := [.int x, .int y]) (rest := .ref q :: st.map (cv ad)) hF (R_X0_init l hl0 g (gws g ad K s1) [aA q, aI x, aI y] _ _ hsp) (cwI 2 hF.2.2.2.2 hG rfl rfl rfl (ht _ hk3) (ht _ h1) (ht _ h2) rfl ⟨by decide, by decide, by decide +kernel⟩ (rm_fit (by omega) (by decide)))
        ⟨RP_blind, fun U9 hU hW => ⟨rfl, GS_moved hGS hW (locs := locs) (by rw [hU]; exact hS2), by rw [hU]; exact hRP⟩⟩ rfl rfl hl.1 rfl ?_ d6
        ⟨?_, ?_⟩) hS2 ?_
      · refine lv_room ?_
        show 1 + ((st.map (cv ad)).map fun v => v.category).sum ≤ 8
        rw [catS_ok]
        omega
      · show (u + 1) * 4 + 3 * 4 ≤ U * 4
        omega
      · show (u + 1) * 24 + 3 * 24 ≤ U * 24
        omega
      · rintro v w' H2 locs2 ⟨rfl, q1, q2, q3, rfl⟩ hP2 hS3 hz
        have hold : ∀ a b, Lv s1 a b → ¬ (b = s1.1 2 ∧ 14 ≤ a ∧ a ≤ 17) := by
          rintro a b hab ⟨rfl, h9, h10⟩
          have : a = 14 ∨ a = 15 ∨ a = 16 ∨ a = 17 := by omega
          rcases this with rfl | rfl | rfl | rfl <;> (have h7 : s1.1 2 < s1.1 2 + s1.1 8 := hab; omega)
        have hado : ∀ t i, ¬ (i = s1.1 2 ∧ 14 ≤ t ∧ t ≤ 17) → adC ad (s1.1 2) q q1 q2 q3 t i = ad t i := fun t i hh => adC_old hh
        have hent : ∀ a b, Lv s1 a b → ent g (adC ad (s1.1 2) q q1 q2 q3) (newC s1 x y) a b = ent g ad s1 a b := fun a b hab =>
          ent_eq (fun _ => newC_2 (hold a b hab)) (fun _ => rfl) (fun hx => by subst hx; have : b < 3 := hab; exact newC_1 (by omega)) (fun hx => by subst hx; have : b < 3 := hab.1; exact ⟨newC_1 (by omega), by rw [newC_1 (by omega), newC_1 (by omega)]⟩)
            ⟨fun _ => newC_1 (by decide), fun _ => newC_1 (by decide)⟩ (fun _ => ⟨newC_1 (by decide), newC_1 (by decide)⟩) (fun t i hR => hado t i (by
              rintro ⟨rfl, h9, h10⟩
              rcases hR with ⟨k9, o, c9, n9, ho9, hk9', hr, hi⟩ | ⟨rfl, rfl, hi⟩ | ⟨hx, rfl⟩ | ⟨rfl, rfl, hi⟩
              · obtain ⟨rfl, rfl⟩ := rf_row hr h9 h10
                exact hold 14 b hab ⟨hi.symm, by decide, by decide⟩
              · have hb3 : b < 3 := hab.1
                have hb : b = 2 := by omega
                subst hb
                have h119 : s1.1 (9 + 2) = 0 := h11
                omega
              · omega
              · have := hab.2
                omega))
        have hgws : gws g (adC ad (s1.1 2) q q1 q2 q3) (K ++ [(14, s1.1 2), (15, s1.1 2), (16, s1.1 2), (17, s1.1 2)]) (newC s1 x y) = gws g ad K s1 ++ [(q, .inr (2, [.int x, .int y, .int 0, .int 1, .ref q1, .ref q2, .ref q3])), (q1, .inl (g.2.1 0, (7, .inl (fun _ => 0)))), (q2, .inl (g.2.1 0, (3, .inl (fR (fun _ => 0) 3 (-1))))), (q3, .inl (g.2.1 0, (3, .inl (fR (fun _ => 0) 3 (-1)))))] := by
          unfold gws
          rw [List.map_append]
          congr 1
          · refine List.map_congr_left fun z hz9 => ?_
            have hz8 := hP.2.2.2.2.2.1 z hz9
            rw [hado z.1 z.2 (hold z.1 z.2 hz8), hent z.1 z.2 hz8]
          · show [(adC ad (s1.1 2) q q1 q2 q3 14 (s1.1 2), Sum.inr (2, [Value.int _, Value.int _, Value.int _, Value.int _, Value.ref (adC ad (s1.1 2) q q1 q2 q3 15 (s1.1 2)), Value.ref (adC ad (s1.1 2) q q1 q2 q3 16 (s1.1 2)), Value.ref (adC ad (s1.1 2) q q1 q2 q3 17 (s1.1 2))])), (adC ad (s1.1 2) q q1 q2 q3 15 (s1.1 2), Sum.inl (g.2.1 0, 7, Sum.inl _)), (adC ad (s1.1 2) q q1 q2 q3 16 (s1.1 2), Sum.inl (g.2.1 0, 3, Sum.inl _)), (adC ad (s1.1 2) q q1 q2 q3 17 (s1.1 2), Sum.inl (g.2.1 0, 3, Sum.inl _))] = _
            rw [adC_14, adC_15, adC_16, adC_17, newC_14, newC_14, newC_14, newC_14, newC_15, newC_16, newC_17]
            rfl
        have hLv : ∀ a b, Lv (newC s1 x y) a b ↔ (Lv s1 a b ∨ (b = s1.1 2 ∧ 14 ≤ a ∧ a ≤ 17)) := by
          intro a b
          by_cases ha : 14 ≤ a ∧ a ≤ 17
          · have : a = 14 ∨ a = 15 ∨ a = 16 ∨ a = 17 := by omega
            rcases this with rfl | rfl | rfl | rfl <;> (show b < (newC s1 x y).1 2 + (newC s1 x y).1 8 ↔ (b < s1.1 2 + s1.1 8 ∨ _); rw [newC_1 (by decide), show (newC s1 x y).1 8 = 1 from stC_eq, h8]; omega)
          · have e9 : Lv (newC s1 x y) a b = Lv s1 a b := by
              unfold Lv
              split <;> first | rfl | (exact absurd ⟨by decide, by decide⟩ ha) | (exact propext (and_congr_right fun h => by rw [newC_1 (by omega)])) | (rw [newC_1 (by omega), newC_1 (by omega)]) | (rw [newC_1 (by omega)])
            rw [e9]
            exact ⟨Or.inl, fun h9 => h9.elim id fun h9 => absurd h9.2 ha⟩
        have hGP : GP g (adC ad (s1.1 2) q q1 q2 q3) (K ++ [(14, s1.1 2), (15, s1.1 2), (16, s1.1 2), (17, s1.1 2)]) (newC s1 x y) H2 := by
          refine ⟨by rw [hgws]; exact hP2.1, by rw [hgws]; exact hP2.2.1, fun a b hab => ?_, hP2.2.2, fun j hj hz9 => ?_, fun z hz9 => ?_, fun t j h70 => ?_⟩
          · rcases (hLv a b).mp hab with h9 | ⟨rfl, h9, h10⟩
            · exact List.mem_append_left _ (hP.2.2.1 a b h9)
            · have : a = 14 ∨ a = 15 ∨ a = 16 ∨ a = 17 := by omega
              rcases this with rfl | rfl | rfl | rfl <;> simp
          · rw [newC_1 (by omega)] at hz9
            rw [hado 3 j (by omega)]
            exact hP.2.2.2.2.1 j hj hz9
          · rcases List.mem_append.mp hz9 with h9 | h9
            · exact (hLv z.1 z.2).mpr (Or.inl (hP.2.2.2.2.2.1 z h9))
            · refine (hLv z.1 z.2).mpr (Or.inr ?_)
              simp only [List.mem_cons, List.not_mem_nil, or_false] at h9
              rcases h9 with rfl | rfl | rfl | rfl <;> exact ⟨rfl, Nat.le_of_ble_eq_true rfl, Nat.le_of_ble_eq_true rfl⟩
          · rw [hado t j (by omega)]
            exact gp_const hP j h70
        have hE1 : Ex ad K (adC ad (s1.1 2) q q1 q2 q3) (K ++ [(14, s1.1 2), (15, s1.1 2), (16, s1.1 2), (17, s1.1 2)]) := fun z hz9 _ _ => ⟨List.mem_append_left _ hz9, fun _ _ => hado z.1 z.2 (hold z.1 z.2 (hP.2.2.2.2.2.1 z hz9))⟩
        have hl1 := has_mem hl (hsub hP.2.2.1 hE1 (gp_cc hP hGP))
        have key := hk _ _ _ _ _ hk9 _ _ (hE.tr hE1) H2 locs2 ls hGP hS3 hl1
        rw [List.map_cons, ← lvs_ok hP.2.2.1 hE1 (gp_cc hP hGP) hlv, show cv (adC ad (s1.1 2) q q1 q2 q3) (aR 14 (s1.1 2)) = .ref q from congrArg Value.ref adC_14] at key
        exact key
  · exact h.elim
end NewC

