/-! a new builder -/
theorem w_726 : (.methodLink "java/lang/StringBuilder" 1 ⟨"java/lang/AbstractStringBuilder", "<init>", "(I)V"⟩ : Cond) ∈ TB := TB_mem (List.mem_of_getElem? (i := 726) (by decide +kernel)) rfl
theorem w_727 : (.instanceMethod ⟨"java/lang/AbstractStringBuilder", "<init>", "(I)V"⟩ : Cond) ∈ TB := TB_mem (List.mem_of_getElem? (i := 727) (by decide +kernel)) rfl
theorem w_728 : (.code yJ5_init_d00df cJ5_init_d00df 2 none : Cond) ∈ TB := TB_mem (List.mem_of_getElem? (i := 728) (by decide +kernel)) rfl
theorem w_729 : (.methodLink "java/lang/AbstractStringBuilder" 3 ⟨"java/lang/Object", "<init>", "()V"⟩ : Cond) ∈ TB := TB_mem (List.mem_of_getElem? (i := 729) (by decide +kernel)) rfl
section RGsi
variable {own : String} {cc : ByteArray} {nL d U : Nat} {ret : Option FieldType} {pc nx : Nat} {ini : Bool}
def rp_gsi (v : Int32) (nx : Nat) : RSem := fun _ _ k _ u L st w => k nx u L (aI v :: st) w
theorem rk_gsi {cn nm ds : String} {v : Int32} {idx : Nat} (hZ : ∀ (g : GPm) (U : State), GS g U → va_Z cn nm ds (.int v) (gA g) U U.heap) (hw : Cond.fieldLink own idx cn nm ds ∈ TB) (hd : decode cc pc = .ok (.getstatic idx, 3)) (hn : pc + 3 = nx) : RSnd ini own cc nL d U ret pc (rp_gsi v nx) := by
  intro g p l e R s m args below meth c w0 hI hC W0 N Q hQ k hk u L st w h
  subst hn
  intro H locs ls hP hS hl
  exact va_gets hC.1.1 hC.1.2.1 (hZ g s hC.2.1) hS hC.1.2.2.2.1 (hC.1.2.2.2.2 _ (List.mem_cons_of_mem _ hw)) (fun _ q => q) hd (hk _ _ _ _ _ h H locs ls hP hS hl)
end RGsi
theorem dJ5_init_d00df_0 : decode cJ5_init_d00df 0 = .ok (.aload_n 0, 1) := by decide +kernel
theorem dJ5_init_d00df_1 : decode cJ5_init_d00df 1 = .ok (.invokespecial 3, 3) := by decide +kernel
theorem dJ5_init_d00df_4 : decode cJ5_init_d00df 4 = .ok (.getstatic 18, 3) := by decide +kernel
theorem dJ5_init_d00df_7 : decode cJ5_init_d00df 7 = .ok (.ifCond .eq 18, 3) := by decide +kernel
theorem dJ5_init_d00df_10 : decode cJ5_init_d00df 10 = .ok (.aload_n 0, 1) := by decide +kernel
theorem dJ5_init_d00df_11 : decode cJ5_init_d00df 11 = .ok (.iload_n 1, 1) := by decide +kernel
theorem dJ5_init_d00df_12 : decode cJ5_init_d00df 12 = .ok (.newarray .byte, 2) := by decide +kernel
theorem dJ5_init_d00df_14 : decode cJ5_init_d00df 14 = .ok (.putfield 15, 3) := by decide +kernel
theorem dJ5_init_d00df_17 : decode cJ5_init_d00df 17 = .ok (.aload_n 0, 1) := by decide +kernel
theorem dJ5_init_d00df_18 : decode cJ5_init_d00df 18 = .ok (.iconst 0, 1) := by decide +kernel
theorem dJ5_init_d00df_19 : decode cJ5_init_d00df 19 = .ok (.putfield 22, 3) := by decide +kernel
theorem dJ5_init_d00df_22 : decode cJ5_init_d00df 22 = .ok (.goto 16, 3) := by decide +kernel
theorem dJ5_init_d00df_25 : decode cJ5_init_d00df 25 = .ok (.aload_n 0, 1) := by decide +kernel
theorem dJ5_init_d00df_26 : decode cJ5_init_d00df 26 = .ok (.iload_n 1, 1) := by decide +kernel
theorem dJ5_init_d00df_27 : decode cJ5_init_d00df 27 = .ok (.invokestatic 26, 3) := by decide +kernel
theorem dJ5_init_d00df_30 : decode cJ5_init_d00df 30 = .ok (.putfield 15, 3) := by decide +kernel
theorem dJ5_init_d00df_33 : decode cJ5_init_d00df 33 = .ok (.aload_n 0, 1) := by decide +kernel
theorem dJ5_init_d00df_34 : decode cJ5_init_d00df 34 = .ok (.iconst 1, 1) := by decide +kernel
theorem dJ5_init_d00df_35 : decode cJ5_init_d00df 35 = .ok (.putfield 22, 3) := by decide +kernel
theorem dJ5_init_d00df_38 : decode cJ5_init_d00df 38 = .ok (.return_, 1) := by decide +kernel
def tabR_J5_init_d00df : List (Nat × RSem) := [(0, rp_al 0 1), (1, rp_oinit 4), (4, rp_gsi 1 7), (7, rp_if (fun x => x = 0) 25 10), (10, rp_al 0 11), (11, rp_il 1 12), (12, rp_newa 5 16 1 14), (14, rp_pf 0 0 (.array .byte) 17), (17, rp_al 0 18), (18, rp_ic 0 19), (19, rp_pf 0 1 .byte 22), (22, rp_go 38), (38, rp_vret)]
set_option maxRecDepth 20000 in
theorem tokR_J5_init_d00df : ∀ q ∈ tabR_J5_init_d00df, RSnd true RJ5 cJ5_init_d00df 2 1 1 none q.1 q.2 := by
  unfold tabR_J5_init_d00df
  refine rcons (rk_aload_n dJ5_init_d00df_0 rfl rfl) ?_
  refine rcons (rk_oinit w_729 (by decide) dJ5_init_d00df_1 rfl) ?_
  refine rcons (rk_gsi (v := 1) (fun g U h => (gz h).2.2.1) w_730 dJ5_init_d00df_4 rfl) ?_
  refine rcons (rk_if_eq dJ5_init_d00df_7 rfl rfl) ?_
  refine rcons (rk_aload_n dJ5_init_d00df_10 rfl rfl) ?_
  refine rcons (rk_iload_n dJ5_init_d00df_11 rfl rfl) ?_
  refine rcons (rk_newarray (ty := .byte) rfl (fun _ => rfl) (fun _ => rfl) w_216 (by decide) (by decide) (by decide) dJ5_init_d00df_12 rfl) ?_
  refine rcons (rk_putfield (C := RJ4) (T := TJ4) (n := 4) tyJ4 (.array .byte) rfl in_J4 tyJ4_ok nmJ4 (by decide) rfl w_739 rfl dJ5_init_d00df_14 rfl) ?_
  refine rcons (rk_aload_n dJ5_init_d00df_17 rfl rfl) ?_
  refine rcons (rk_iconst dJ5_init_d00df_18 rfl rfl) ?_
  refine rcons (rk_putfield (C := RJ4) (T := TJ4) (n := 4) tyJ4 .byte rfl in_J4 tyJ4_ok nmJ4 (by decide) rfl w_740 rfl dJ5_init_d00df_19 rfl) ?_
  refine rcons (rk_goto dJ5_init_d00df_22 rfl) ?_
  refine rcons (rk_vreturn rfl dJ5_init_d00df_38) ?_
  exact fun _ h => nomatch h
def rs_J5_init_d00df : RSpc := fun g av w N => match av, w with
  | [.inl (.inr (_, a)), .inl (.inl n)], [(b, .inr (0, [_, _, v2, v3]))] => a = b ∧ n = 16 ∧ ∀ q : Nat, N none [(b, .inr (0, [.ref q, .int 0, v2, v3])), (q, .inl (g.2.1 5, (16, .inl (fun _ => 0))))]
  | _, _ => False
theorem R_J5_init_d00df : RMet yJ5_init_d00df cJ5_init_d00df 2 none 1 1 rs_J5_init_d00df := by
  refine RMet.mk (own := RJ5) true (fun _ => rfl) (by decide) rfl [0, 1] rfl tokR_J5_init_d00df 300 ?_
  intro g av w N h
  unfold rs_J5_init_d00df at h
  split at h
  · rename_i x a n b y0 y1 v2 v3
    obtain ⟨rfl, rfl, h⟩ := h
    refine ⟨[], ?_, an⟩
    refine ⟨Nat.le_of_ble_eq_true rfl, fun q => absurd q (by decide), fun _ => ⟨by decide, by decide, by decide, fun q => ?_⟩⟩
    refine ⟨rfl, rfl, 0, _, rfl, Nat.le_of_ble_eq_true rfl, rfl, rfl, 0, _, rfl, Nat.le_of_ble_eq_true rfl, by decide, ?_⟩
    exact h q
  · exact h.elim
theorem dJ4_init_da8c8_0 : decode cJ4_init_da8c8 0 = .ok (.aload_n 0, 1) := by decide +kernel
theorem dJ4_init_da8c8_1 : decode cJ4_init_da8c8 1 = .ok (.bipush 16, 2) := by decide +kernel
theorem dJ4_init_da8c8_3 : decode cJ4_init_da8c8 3 = .ok (.invokespecial 1, 3) := by decide +kernel
theorem dJ4_init_da8c8_6 : decode cJ4_init_da8c8 6 = .ok (.return_, 1) := by decide +kernel
def tabR_J4_init_da8c8 : List (Nat × RSem) := [(0, rp_al 0 1), (1, rp_ic 16 3), (3, rp_callI rs_J5_init_d00df 2 1 6), (6, rp_vret)]
set_option maxRecDepth 20000 in
theorem tokR_J4_init_da8c8 : ∀ q ∈ tabR_J4_init_da8c8, RSnd true RJ4 cJ4_init_da8c8 1 2 1 none q.1 q.2 := by
  unfold tabR_J4_init_da8c8
  refine rcons (rk_aload_n dJ4_init_da8c8_0 rfl rfl) ?_
  refine rcons (rk_bipush dJ4_init_da8c8_1 rfl rfl) ?_
  refine rcons (rk_invokeinit R_J5_init_d00df w_726 w_727 w_40 w_728 rfl ⟨by decide, by decide, by decide +kernel⟩ (by decide) (by decide) dJ4_init_da8c8_3 rfl) ?_
  refine rcons (rk_vreturn rfl dJ4_init_da8c8_6) ?_
  exact fun _ h => nomatch h
def rs_J4_init_da8c8 : RSpc := fun g av w N => match av, w with
  | [.inl (.inr (_, a))], [(b, .inr (0, [_, _, v2, v3]))] => a = b ∧ ∀ q : Nat, N none [(b, .inr (0, [.ref q, .int 0, v2, v3])), (q, .inl (g.2.1 5, (16, .inl (fun _ => 0))))]
  | _, _ => False
theorem R_J4_init_da8c8 : RMet yJ4_init_da8c8 cJ4_init_da8c8 1 none 2 1 rs_J4_init_da8c8 := by
  refine RMet.mk (own := RJ4) true (fun _ => rfl) (by decide) rfl [0] rfl tokR_J4_init_da8c8 300 ?_
  intro g av w N h
  unfold rs_J4_init_da8c8 at h
  split at h
  · rename_i x a b y0 y1 v2 v3
    obtain ⟨rfl, h⟩ := h
    refine ⟨[], ?_, an⟩
    exact ⟨by decide, Nat.le_of_ble_eq_true rfl, 0, rfl, rfl, fun q => ⟨rfl, by decide, h q⟩⟩
  · exact h.elim
def newB (s : Sg) : Sg := stC (stC (s.1, fun a b c => if b = 0 ∧ (a = 18 ∨ a = 19) then 0 else s.2.1 a b c, s.2.2) 12 1) 13 16
theorem newB_1 {s : Sg} {c : Nat} (h : ¬ c = 12) (h' : ¬ c = 13) : (newB s).1 c = s.1 c := (stC_ne h').trans (stC_ne h)
theorem newB_12 {s : Sg} : (newB s).1 12 = 1 := (stC_ne (by decide)).trans stC_eq
theorem newB_13 {s : Sg} : (newB s).1 13 = 16 := stC_eq
theorem newB_2 {s : Sg} {a b c : Nat} (h : ¬ (b = 0 ∧ (a = 18 ∨ a = 19))) : (newB s).2.1 a b c = s.2.1 a b c := if_neg h
theorem newB_0 {s : Sg} {a c : Nat} (h : a = 18 ∨ a = 19) : (newB s).2.1 a 0 c = 0 := if_pos ⟨rfl, h⟩
theorem rf_19 {x k t : Nat} {o : Option Nat} (h : rf x k = some (t, o)) (h1 : t = 18 ∨ t = 19) : x = 18 := by
  unfold rf at h
  split at h <;> first
    | (cases h; first | rfl | (exfalso; omega))
    | (split at h
       · cases h
       · cases h; exfalso; omega)
    | cases h
def adB (ad : Nat → Nat → Nat) (q q1 : Nat) : Nat → Nat → Nat := adN (adN ad 18 0 q) 19 0 q1
theorem adB_old {ad : Nat → Nat → Nat} {q q1 t i : Nat} (h : ¬ (i = 0 ∧ (t = 18 ∨ t = 19))) : adB ad q q1 t i = ad t i := by
  unfold adB
  rw [adN_old (by omega), adN_old (by omega)]
theorem adB_18 {ad : Nat → Nat → Nat} {q q1 : Nat} : adB ad q q1 18 0 = q := by unfold adB; rw [adN_old (by omega), adN_new]
theorem adB_19 {ad : Nat → Nat → Nat} {q q1 : Nat} : adB ad q q1 19 0 = q1 := adN_new
section NewB
variable {own : String} {cc : ByteArray} {nL d U : Nat} {ret : Option FieldType} {pc nx : Nat}
def op_newSB (nx : Nat) : Sem := fun U k _ _ u L st s => u + 2 ≤ U ∧ s.1 12 = 0 ∧ s.1 14 = 0 ∧ catS st ≤ 7 ∧ lvs s st ∧ lvK s L (fun L' => k nx (u + 2) L' (aR 18 0 :: st) (newB s))
set_option maxHeartbeats 1000000 in
theorem ok_newSB {ik ic : Nat} (hk1 : Cond.classLink own ik RJ4 ∈ TB) (hk2 : Cond.instantiable RJ4 4 ∈ TB) (hk3 : Cond.initialized RJ4 ∈ TB)
    (h1 : Cond.methodLink own ic yJ4_init_da8c8 ∈ TB) (h2 : Cond.instanceMethod yJ4_init_da8c8 ∈ TB) (h4 : Cond.code yJ4_init_da8c8 cJ4_init_da8c8 1 none ∈ TB) (hdd : 3 ≤ d)
    (d0 : decode cc pc = .ok (.new ik, 3)) (d3 : decode cc (pc + 3) = .ok (.dup, 1)) (d4 : decode cc (pc + 4) = .ok (.invokespecial ic, 3)) (hn : pc + 7 = nx) : GSnd own cc nL d U ret pc (op_newSB nx) := by
  intro g p l e R s m args below meth c w0 hC ad0 K0 N X Q hQ k hk u L st s1 h ad K hE
  subst hn
  intro H locs ls hP hS hl
  obtain ⟨hu, h12, h14, hcat, hlv, hlk9⟩ := h
  obtain ⟨L', hk9, hsub⟩ := lvK_ok hlk9
  obtain ⟨hF, hGS, hlk, hret, hR, hl0, htab⟩ := hC
  subst hR
  have ht : ∀ w ∈ TB, w.before args s = true := fun w hw => hF.2.2.2.2 w (List.mem_cons_of_mem _ hw)
  have hS9 : va_S (gA g) H H locs := ⟨Nat.le_refl _, fun _ _ _ => rfl, hS.2.2⟩
  have hum : u * 24 + 2 * 24 ≤ U * 24 := by rw [← Nat.add_mul]; exact Nat.mul_le_mul_right _ hu
  refine va_new (T := TJ4) (N := 4) (ci := 0) (H0 := H) (fs := [.null, .int 0, .int 0, .int 0]) hF.1 hF.2.1 ht in_J4 tyJ4 tyJ4_ok hF.2.2.2.1 (ht _ hk1) (ht _ hk2) (ht _ hk3) hGS.1 hP.1 hP.2.1 hS9 (fun q hq => Nat.le_trans hP.2.2.2.1 hq) rfl (by intro j hj; match j, hj with | 0, _ => rfl | 1, _ => rfl | 2, _ => rfl | 3, _ => rfl) ?_ ?_ d0 ?_
  · show u * 4 + 1 ≤ U * 4
    omega
  · show u * 24 + 4 ≤ U * 24
    omega
  · intro q H1 hP1 hD1 hS1
    have hS2 : va_S (gA g) s.heap H1 locs := ⟨Nat.le_trans hS.1 hS1.1, fun z h1 h2 => (hS1.2.1 z (Nat.lt_of_lt_of_le h1 hS.1) h2).trans (hS.2.1 z h1 h2), hS1.2.2⟩
    have hRP : RP g (gws g ad K s1) [(q, .inr (0, [.null, .int 0, .int 0, .int 0]))] H1 := ⟨hP1, hD1, Nat.le_trans hP.2.2.2.1 hS1.1⟩
    refine lv_dup hF.1 hF.2.1 d3 rfl ?_
    have hG : GoodIn (w0 :: TB) (wsM yJ4_init_da8c8 cJ4_init_da8c8 1 none) := TB_in (by
      intro w hw
      simp only [wsM, List.mem_cons] at hw
      rcases hw with rfl | hw
      · exact h4
      · exact hw)
    refine W.widen (k := (u + 1) * cU) (n := (u + 1) * sU) ?_ ?_ ?_
    · show u * 4 + 1 ≤ (u + 1) * 4
      omega
    · show u * 24 + 4 ≤ (u + 1) * 24
      omega
    have hsp : rs_J4_init_da8c8 g [aA q] [(q, .inr (0, [.null, .int 0, .int 0, .int 0]))] (fun r w' => r = none ∧ ∃ q1 : Nat, w' = [(q, .inr (0, [.ref q1, .int 0, .int 0, .int 0])), (q1, .inl (g.2.1 5, (16, .inl (fun _ => 0))))]) := ⟨rfl, fun q1 => ⟨rfl, q1, rfl⟩⟩
    refine run_okR (w9 := 1) (vx_runI (b := q) (As := []) (rest := .ref q :: st.map (cv ad)) hF (R_J4_init_da8c8 l hl0 g (gws g ad K s1) [aA q] _ _ hsp) (cwI 0 hF.2.2.2.2 hG rfl rfl rfl (ht _ hk3) (ht _ h1) (ht _ h2) rfl ⟨by decide, by decide, by decide +kernel⟩ (rm_fit (by omega) (by decide)))
      ⟨RP_blind, fun U9 hU hW => ⟨rfl, GS_moved hGS hW (locs := locs) (by rw [hU]; exact hS2), by rw [hU]; exact hRP⟩⟩ rfl rfl hl.1 rfl ?_ d4
      ⟨?_, ?_⟩) hS2 ?_
    · refine lv_room ?_
      show 1 + ((st.map (cv ad)).map fun v => v.category).sum ≤ 8
      rw [catS_ok]
      omega
    · show (u + 1) * 4 + 1 * 4 ≤ U * 4
      omega
    · show (u + 1) * 24 + 1 * 24 ≤ U * 24
      omega
    · rintro v w' H2 locs2 ⟨rfl, q1, rfl⟩ hP2 hS3 hz
      have hold : ∀ a b, Lv s1 a b → ¬ (b = 0 ∧ (a = 18 ∨ a = 19)) := by
        rintro a b hab ⟨rfl, h9 | h9⟩ <;> (subst h9; have h7 : 0 < s1.1 12 := hab; omega)
      have hado : ∀ t i, ¬ (i = 0 ∧ (t = 18 ∨ t = 19)) → adB ad q q1 t i = ad t i := fun t i hh => adB_old hh
      have hent : ∀ a b, Lv s1 a b → ent g (adB ad q q1) (newB s1) a b = ent g ad s1 a b := fun a b hab =>
        ent_eq (fun _ => newB_2 (hold a b hab)) (fun _ => rfl) (fun hx => by subst hx; have : b < 3 := hab; exact newB_1 (by omega) (by omega)) (fun hx => by subst hx; have : b < 3 := hab.1; exact ⟨newB_1 (by omega) (by omega), by rw [newB_1 (by omega) (by omega), newB_1 (by omega) (by omega)]⟩)
          ⟨fun hx => by subst hx; have h7 : b < s1.1 12 := hab; omega, fun _ => newB_1 (by decide) (by decide)⟩ (fun _ => ⟨newB_1 (by decide) (by decide), newB_1 (by decide) (by decide)⟩) (fun t i hR => hado t i (by
            rintro ⟨rfl, h9⟩
            rcases hR with ⟨k9, o, c9, n9, ho9, hk9', hr, hi⟩ | ⟨rfl, rfl, hi⟩ | ⟨hx, rfl⟩ | ⟨rfl, rfl, hi⟩
            · obtain rfl := rf_19 hr h9
              have h7 : b < s1.1 12 := hab
              omega
            · have hb3 : b < 3 := hab.1
              omega
            · omega
            · have := hab.2
              omega))
      have hgws : gws g (adB ad q q1) (K ++ [(18, 0), (19, 0)]) (newB s1) = gws g ad K s1 ++ [(q, .inr (0, [.ref q1, .int 0, .int 0, .int 0])), (q1, .inl (g.2.1 5, (16, .inl (fun _ => 0))))] := by
        unfold gws
        rw [List.map_append]
        congr 1
        refine List.map_congr_left fun z hz9 => ?_
        have hz8 := hP.2.2.2.2.2.1 z hz9
        rw [hado z.1 z.2 (hold z.1 z.2 hz8), hent z.1 z.2 hz8]
      have hLv : ∀ a b, Lv (newB s1) a b ↔ (Lv s1 a b ∨ (b = 0 ∧ (a = 18 ∨ a = 19))) := by
        intro a b
        by_cases ha : a = 18 ∨ a = 19
        · rcases ha with rfl | rfl <;> (show b < (newB s1).1 12 ↔ (b < s1.1 12 ∨ _); rw [newB_12, h12]; omega)
        · have e9 : Lv (newB s1) a b = Lv s1 a b := by
            unfold Lv
            split <;> first | rfl | (exact absurd (by decide) ha) | (exact propext (and_congr_right fun h => by rw [newB_1 (by omega) (by omega)])) | (rw [newB_1 (by omega) (by omega), newB_1 (by omega) (by omega)]) | (rw [newB_1 (by omega) (by omega)])
          rw [e9]
          exact ⟨Or.inl, fun h9 => h9.elim id fun h9 => absurd h9.2 ha⟩
      have hGP : GP g (adB ad q q1) (K ++ [(18, 0), (19, 0)]) (newB s1) H2 := by
        refine ⟨by rw [hgws]; exact hP2.1, by rw [hgws]; exact hP2.2.1, fun a b hab => ?_, hP2.2.2, fun j hj hz9 => ?_, fun z hz9 => ?_, fun t j h70 => ?_⟩
        · rcases (hLv a b).mp hab with h9 | ⟨rfl, h9⟩
          · exact List.mem_append_left _ (hP.2.2.1 a b h9)
          · rcases h9 with rfl | rfl <;> simp
        · rw [newB_1 (by omega) (by omega)] at hz9
          rw [hado 3 j (by omega)]
          exact hP.2.2.2.2.1 j hj hz9
        · rcases List.mem_append.mp hz9 with h9 | h9
          · exact (hLv z.1 z.2).mpr (Or.inl (hP.2.2.2.2.2.1 z h9))
          · refine (hLv z.1 z.2).mpr (Or.inr ?_)
            simp only [List.mem_cons, List.not_mem_nil, or_false] at h9
            rcases h9 with rfl | rfl
            · exact ⟨rfl, Or.inl rfl⟩
            · exact ⟨rfl, Or.inr rfl⟩
        · rw [hado t j (by omega)]
          exact gp_const hP j h70
      have hE1 : Ex ad K (adB ad q q1) (K ++ [(18, 0), (19, 0)]) := fun z hz9 _ _ => ⟨List.mem_append_left _ hz9, fun _ _ => hado z.1 z.2 (hold z.1 z.2 (hP.2.2.2.2.2.1 z hz9))⟩
      have hl1 := has_mem hl (hsub hP.2.2.1 hE1 (gp_cc hP hGP))
      have key := hk _ _ _ _ _ hk9 _ _ (hE.tr hE1) H2 locs2 ls hGP hS3 hl1
      rw [List.map_cons, ← lvs_ok hP.2.2.1 hE1 (gp_cc hP hGP) hlv, show cv (adB ad q q1) (aR 18 0) = .ref q from congrArg Value.ref adB_18] at key
      exact key
end NewB

