/-! a builder dropped; VowCourt.state -/
theorem w_18 : (.selects "VowCourt" ⟨"VowCourt", "describe", "(II)Ljava/lang/StringBuilder;"⟩ ⟨"VowCourt", "describe", "(II)Ljava/lang/StringBuilder;"⟩ : Cond) ∈ TB := TB_mem (List.mem_of_getElem? (i := 18) (by decide +kernel)) rfl
theorem w_717 : (.methodLink "VowCourt" 222 ⟨"VowCourt", "describe", "(II)Ljava/lang/StringBuilder;"⟩ : Cond) ∈ TB := TB_mem (List.mem_of_getElem? (i := 717) (by decide +kernel)) rfl
theorem w_719 : (.instanceMethod ⟨"VowCourt", "describe", "(II)Ljava/lang/StringBuilder;"⟩ : Cond) ∈ TB := TB_mem (List.mem_of_getElem? (i := 719) (by decide +kernel)) rfl
theorem w_720 : (.code yX4_describe cX4_describe 5 (some (.object "java/lang/StringBuilder")) : Cond) ∈ TB := TB_mem (List.mem_of_getElem? (i := 720) (by decide +kernel)) rfl
theorem w_888 : (.methodLink "VowCourt" 226 ⟨"java/lang/StringBuilder", "length", "()I"⟩ : Cond) ∈ TB := TB_mem (List.mem_of_getElem? (i := 888) (by decide +kernel)) rfl
theorem w_889 : (.instanceMethod ⟨"java/lang/StringBuilder", "length", "()I"⟩ : Cond) ∈ TB := TB_mem (List.mem_of_getElem? (i := 889) (by decide +kernel)) rfl
theorem w_890 : (.selects "java/lang/StringBuilder" ⟨"java/lang/StringBuilder", "length", "()I"⟩ ⟨"java/lang/StringBuilder", "length", "()I"⟩ : Cond) ∈ TB := TB_mem (List.mem_of_getElem? (i := 890) (by decide +kernel)) rfl
theorem w_891 : (.code yJ4_length_8abf5 cJ4_length_8abf5 1 (some .int) : Cond) ∈ TB := TB_mem (List.mem_of_getElem? (i := 891) (by decide +kernel)) rfl
theorem w_895 : (.methodLink "VowCourt" 231 ⟨"java/lang/StringBuilder", "charAt", "(I)C"⟩ : Cond) ∈ TB := TB_mem (List.mem_of_getElem? (i := 895) (by decide +kernel)) rfl
theorem w_896 : (.instanceMethod ⟨"java/lang/StringBuilder", "charAt", "(I)C"⟩ : Cond) ∈ TB := TB_mem (List.mem_of_getElem? (i := 896) (by decide +kernel)) rfl
theorem w_897 : (.selects "java/lang/StringBuilder" ⟨"java/lang/StringBuilder", "charAt", "(I)C"⟩ ⟨"java/lang/StringBuilder", "charAt", "(I)C"⟩ : Cond) ∈ TB := TB_mem (List.mem_of_getElem? (i := 897) (by decide +kernel)) rfl
theorem w_898 : (.code yJ4_charAt_5068e cJ4_charAt_5068e 2 (some .char) : Cond) ∈ TB := TB_mem (List.mem_of_getElem? (i := 898) (by decide +kernel)) rfl
theorem GP_drop {g : GPm} {ad : Nat → Nat → Nat} {K : List (Nat × Nat)} {s0 s' : Sg} {H : Heap} (hP : GP g ad K s' H) (h : drp s0 s') : GP g ad (K.filter fun z => decide (¬ z.1 = 18 ∧ ¬ z.1 = 19)) s0 H := by
  generalize hK' : (K.filter fun z => decide (¬ z.1 = 18 ∧ ¬ z.1 = 19)) = K1
  have hK1 : ∀ z, z ∈ K1 ↔ z ∈ K ∧ ¬ z.1 = 18 ∧ ¬ z.1 = 19 := fun z => by rw [← hK', List.mem_filter, decide_eq_true_eq]
  obtain ⟨h12, h14, h17, hz, hc, hd⟩ := of_eq_true h
  have hent : ∀ x y, Lv s' x y → ¬ x = 18 → ¬ x = 19 → ent g ad s0 x y = ent g ad s' x y := fun x y hxy n18 n19 =>
    ent_eq (fun d => (hd x y d n18 n19 (fun hx => by subst hx; have := hxy.2; omega)).symm) (fun _ => hz.symm) (fun hx => by subst hx; have : y < 3 := hxy; exact (hc y (by omega) (by omega)).symm) (fun hx => by subst hx; have : y < 3 := hxy.1; exact ⟨(hc _ (by omega) (by omega)).symm, by rw [hc y (by omega) (by omega), hc (9 + y) (by omega) (by omega)]⟩)
      ⟨fun hx => absurd hx n19, fun _ => (hc 17 (by decide) (by decide)).symm⟩ (fun _ => ⟨(hc 14 (by decide) (by decide)).symm, (hc 15 (by decide) (by decide)).symm⟩) (fun _ _ _ => rfl)
  have hLv : ∀ x y, Lv s0 x y ↔ Lv s' x y ∧ ¬ x = 18 ∧ ¬ x = 19 := by
    intro x y
    by_cases hx : x = 18 ∨ x = 19
    · constructor
      · intro h9
        rcases hx with rfl | rfl <;> (have h8 : y < s0.1 12 := h9; omega)
      · rintro ⟨-, h9, h10⟩
        exact absurd hx (by omega)
    · have e9 : Lv s0 x y = Lv s' x y := by
        unfold Lv
        split <;> first | rfl | (exact absurd (by decide) hx) | (exact propext (and_congr_right fun h9 => by rw [hc _ (by omega) (by omega)])) | (rw [hc _ (by decide) (by decide), hc _ (by decide) (by decide)]) | (rw [hc _ (by decide) (by decide)])
      rw [e9]
      exact ⟨fun h9 => ⟨h9, by omega, by omega⟩, fun h9 => h9.1⟩
  have hg : ∀ x ∈ gws g ad K1 s0, x ∈ gws g ad K s' := by
    intro x hx
    unfold gws at hx ⊢
    obtain ⟨z, hz9, rfl⟩ := List.mem_map.mp hx
    obtain ⟨h1, h2, h3⟩ := (hK1 z).mp hz9
    rw [hent z.1 z.2 (hP.2.2.2.2.2.1 z h1) h2 h3]
    exact List.mem_map.mpr ⟨z, h1, rfl⟩
  have hnd : ((gws g ad K1 s0).map (·.1)).Nodup := by
    have e9 : (gws g ad K1 s0).map (·.1) = K1.map (fun q => ad q.1 q.2) := by
      unfold gws
      rw [List.map_map]
      rfl
    rw [e9, ← hK']
    exact (gws_nd hP.2.1).sublist ((List.filter_sublist).map _)
  refine ⟨VP_mem hP.1 hg, VD_iff.mpr ⟨hnd, fun x hx => (VD_iff.mp hP.2.1).2 x (hg x hx)⟩, fun x y hxy => ?_, hP.2.2.2.1, fun j hj hz9 => ?_, fun z hz9 => ?_, fun t j h70 => gp_const hP j h70⟩
  · have h9 := (hLv x y).mp hxy
    exact (hK1 (x, y)).mpr ⟨hP.2.2.1 x y h9.1, h9.2⟩
  · rw [← hc (3 + j) (by omega) (by omega)] at hz9
    exact hP.2.2.2.2.1 j hj hz9
  · have h9 := (hK1 z).mp hz9
    exact (hLv z.1 z.2).mpr ⟨hP.2.2.2.2.2.1 z h9.1, h9.2⟩
/-- an outcome but for a builder -/
def dN (N : Nt) : Nt := fun v s' => ∃ s0, drp s0 s' ∧ N v s0
theorem gQ_d {g : GPm} {ad : Nat → Nat → Nat} {K : List (Nat × Nat)} {N : Nt} {a : Array Value} {st : State} {oc : Outcome} {t : State} (hK : ∀ q ∈ K, ¬ q.1 = 18 ∧ ¬ q.1 = 19) (h : gQ g ad K (dN N) a st oc t) : gQ g ad K N a st oc t := by
  obtain ⟨⟨ad', K', v, s', hE, h1, ⟨s0, h2, h3⟩, h4⟩, h5⟩ := h
  refine ⟨⟨ad', _, v, s0, fun q hq n58 n59 => ?_, h1, h3, GP_drop h4 h2⟩, h5⟩
  have h9 := hE q hq n58 n59
  exact ⟨List.mem_filter.mpr ⟨h9.1, by rw [decide_eq_true_eq]; exact hK q hq⟩, h9.2⟩
theorem MQ_d {g : GPm} {ad : Nat → Nat → Nat} {K : List (Nat × Nat)} {N : Nt} {X : Xt} {below : List Frame} {a : Array Value} {s t : State} {mc ms : Nat} (hK : ∀ q ∈ K, ¬ q.1 = 18 ∧ ¬ q.1 = 19) (h : vx_MQ below (gQ g ad K (dN N)) (gX g ad K X) a s mc ms (gA g) t) : vx_MQ below (gQ g ad K N) (gX g ad K X) a s mc ms (gA g) t := by
  obtain ⟨o, h1, h2, h3⟩ := h
  refine ⟨o, h1, h2, ?_⟩
  rcases h3 with ⟨h3, h4⟩ | ⟨q, h3, E, ce, L, h4, h5⟩
  · exact Or.inl ⟨gQ_d hK h3, h4⟩
  · exact Or.inr ⟨q, h3, E, ce, L, h4, h5⟩
theorem GMet.mkd {y : MethodName} {own : String} {cc : ByteArray} {nL d U : Nat} {ret : Option FieldType} {sp : Spc} {T : List (Nat × Sem)} (hy : plainName y.cls = true) (hcls : y.cls = own) (is : List Nat) (his : is = List.range' 0 nL)
    (hT : ∀ q ∈ T, GSnd own cc nL d U ret q.1 q.2) (F : Nat)
    (body : ∀ av s0 N X, sp av s0 N X → s0.1 12 = 0 ∧ argK av is (fun L => wp (lk T) (fun _ => none) U (dN N) X F 0 0 L [] s0)) : GMet y cc nL ret d U sp := by
  intro l hl g ad K av s0 N X h
  subst hcls
  subst his
  refine vx_ofW hy rfl ?_
  intro p e s m args below meth c s₁ B hml htab hv
  obtain ⟨rfl, hGS, hGP⟩ := hv
  have hC : CX g p l (headSpec (wsM y cc nL ret) (rmD d U)).room s m (av.map (cv ad)).toArray meth c y.cls cc nL d U ret (.code y cc nL ret) :=
    ⟨⟨B.exec, B.bytes, hml, findClass_of_methodNamed B.named, atoms_spec (ws := wsM y cc nL ret) B.pre⟩, hGS, B.notSynchronized, B.returns, rfl, hl, htab⟩
  obtain ⟨h12, h1⟩ := body av s0 N X h
  have hK : ∀ q ∈ K, ¬ q.1 = 18 ∧ ¬ q.1 = 19 := fun q hq => by
    have h9 := hGP.2.2.2.2.2.1 q hq
    obtain ⟨t, i⟩ := q
    constructor <;> (rintro rfl; have h8 : i < s0.1 12 := h9; omega)
  have hQ : GQX g s (av.map (cv ad)).toArray below ad K (dN N) X U (vx_MQ below (gQ g ad K N) (gX g ad K X) (av.map (cv ad)).toArray s (U * cU) (U * sU) (gA g)) := fun t q => MQ_d hK q
  obtain ⟨L, h3, h4⟩ := argK_ok (ad := ad) av 0 nL _ h1
  obtain ⟨h5, h6⟩ := argK_len av 0 nL _ h1
  have key := gwp_ok (e := e) hT hC hQ (C := fun _ => none) (fun pc P hP => nomatch hP) F 0 0 L [] s0 h3
  rw [lg_entry_eq]
  have hlen : (lg_sl (av.map (cv ad))).length ≤ nL := by rw [lgsl_len av h6]; exact h5
  have hlv := lv_entry (av.map (cv ad)) hlen
  have k2 := key ad K Ex.rf s.heap [] _ hGP va_S.rf (by rw [h4]; exact hlv)
  rw [Nat.zero_mul, Nat.zero_mul] at k2
  exact k2
noncomputable def chC (s : Sg) (p t i : Int32) : Int32 := nI ((dsL s p t).getD (cl i) 0)
theorem ltx_b : ∀ i, i < 3 → ∀ x ∈ ltx i, x < 128 := by decide
theorem numL_b {n : Nat} (hn : n < 100) : ∀ x ∈ numL n, x < 128 := by
  unfold numL
  split <;> (intro x hx; simp only [List.mem_cons, List.not_mem_nil, or_false] at hx; omega)
theorem dsL_b {s : Sg} {p t : Int32} (hC : CI s) (h30 : s.1 1 ≤ 30) : ∀ x ∈ dsL s p t, x < 128 := by
  unfold dsL
  rcases lbC_or (s := s) (p := p) (t := t) (s.1 1) 0 with hm | ⟨v, -, hv, hm, -⟩
  · rw [if_pos hm]; exact ltx_b 0 (by decide)
  · rw [hm]
    have hne : ¬ nI v = -1 := fun q => by
      have := nI_pos' (n := v) (by omega)
      rw [q] at this
      exact absurd this (by decide)
    have hcv : cl (nI v) = v := nI_clamp (by omega)
    rw [if_neg hne, hcv]
    have hv3 : Lv s 13 v := Nat.lt_of_lt_of_le (by omega : v < s.1 1) (Nat.le_add_right _ _)
    have hp24 : s.1 0 ≤ 24 := (of_eq_true hC).2.2.2.1
    have hiv := (of_eq_true hC).2.2.2.2.1 v hv3
    obtain ⟨q0, hq0, eq0⟩ := iC_ex hiv.1 (by omega)
    obtain ⟨q1, hq1, eq1⟩ := iC_ex hiv.2 (by omega)
    have hpt : cl (ptC s v p) < 100 := by
      unfold ptC
      split
      · rw [eq1, show cl (nI q1) = q1 from nI_clamp (by omega)]; omega
      · rw [eq0, show cl (nI q0) = q0 from nI_clamp (by omega)]; omega
    intro x hx
    rcases List.mem_append.mp hx with hx | hx
    · rcases List.mem_append.mp hx with hx | hx
      · rcases List.mem_append.mp hx with hx | hx
        · exact ltx_b 1 (by decide) x hx
        · exact numL_b (by omega) x hx
      · exact ltx_b 2 (by decide) x hx
    · exact numL_b hpt x hx
theorem dsL_len {s : Sg} {p t : Int32} : (dsL s p t).length ≤ 17 := by
  unfold dsL
  split
  · decide
  · rw [List.length_append, List.length_append, List.length_append, numL_len, numL_len]
    have h1 := dgN_le (cl (lbC s p t (s.1 1) 0))
    have h2 := dgN_le (cl (ptC s (cl (lbC s p t (s.1 1) 0)) p))
    show 9 + _ + 4 + _ ≤ 17
    omega
theorem dX4_state_0 : decode cX4_state 0 = .ok (.aload_n 0, 1) := by decide +kernel
theorem dX4_state_1 : decode cX4_state 1 = .ok (.iload_n 1, 1) := by decide +kernel
theorem dX4_state_2 : decode cX4_state 2 = .ok (.invokevirtual 45, 3) := by decide +kernel
theorem dX4_state_5 : decode cX4_state 5 = .ok (.ifCond .eq 11, 3) := by decide +kernel
theorem dX4_state_8 : decode cX4_state 8 = .ok (.iload_n 3, 1) := by decide +kernel
theorem dX4_state_9 : decode cX4_state 9 = .ok (.ifCond .lt 7, 3) := by decide +kernel
theorem dX4_state_12 : decode cX4_state 12 = .ok (.iconst 1, 1) := by decide +kernel
theorem dX4_state_13 : decode cX4_state 13 = .ok (.goto 4, 3) := by decide +kernel
theorem dX4_state_16 : decode cX4_state 16 = .ok (.iconst 0, 1) := by decide +kernel
theorem dX4_state_17 : decode cX4_state 17 = .ok (.invokestatic 49, 3) := by decide +kernel
theorem dX4_state_20 : decode cX4_state 20 = .ok (.iload_n 2, 1) := by decide +kernel
theorem dX4_state_21 : decode cX4_state 21 = .ok (.invokestatic 212, 3) := by decide +kernel
theorem dX4_state_24 : decode cX4_state 24 = .ok (.invokestatic 53, 3) := by decide +kernel
theorem dX4_state_27 : decode cX4_state 27 = .ok (.aload_n 0, 1) := by decide +kernel
theorem dX4_state_28 : decode cX4_state 28 = .ok (.iload_n 1, 1) := by decide +kernel
theorem dX4_state_29 : decode cX4_state 29 = .ok (.iload_n 2, 1) := by decide +kernel
theorem dX4_state_30 : decode cX4_state 30 = .ok (.invokevirtual 222, 3) := by decide +kernel
theorem dX4_state_33 : decode cX4_state 33 = .ok (.astore 4, 2) := by decide +kernel
theorem dX4_state_35 : decode cX4_state 35 = .ok (.iload_n 3, 1) := by decide +kernel
theorem dX4_state_36 : decode cX4_state 36 = .ok (.aload 4, 2) := by decide +kernel
theorem dX4_state_38 : decode cX4_state 38 = .ok (.invokevirtual 226, 3) := by decide +kernel
theorem dX4_state_41 : decode cX4_state 41 = .ok (.if_icmp .ge 12, 3) := by decide +kernel
theorem dX4_state_44 : decode cX4_state 44 = .ok (.aload 4, 2) := by decide +kernel
theorem dX4_state_46 : decode cX4_state 46 = .ok (.iload_n 3, 1) := by decide +kernel
theorem dX4_state_47 : decode cX4_state 47 = .ok (.invokevirtual 231, 3) := by decide +kernel
theorem dX4_state_50 : decode cX4_state 50 = .ok (.goto 4, 3) := by decide +kernel
theorem dX4_state_53 : decode cX4_state 53 = .ok (.iconst 0, 1) := by decide +kernel
theorem dX4_state_54 : decode cX4_state 54 = .ok (.ireturn, 1) := by decide +kernel
def tab_X4_state : List (Nat × Sem) := [(0, op_al 0 1), (1, op_il 1 2), (2, op_callV 6 sp_X4_isPerson 2 0 5), (5, op_if (fun x => x = 0) 16 8), (8, op_il 3 9), (9, op_if (fun x => x < 0) 16 12), (12, op_ic 1 13), (13, op_go 17), (16, op_ic 0 17), (17, op_call sp_X4_checkIndex 1 1 20), (20, op_il 2 21), (21, op_call sp_X4_isDay 1 0 24), (24, op_call sp_X4_checkArgument 1 1 27), (27, op_al 0 28), (28, op_il 1 29), (29, op_il 2 30), (30, op_callGV 6 sp_X4_describe 3 14 33), (33, op_as 4 35), (35, op_il 3 36), (36, op_al 4 38), (38, op_callV 0 sp_J4_length_8abf5 1 0 41), (41, op_cmp (fun x y => y ≤ x) 53 44), (44, op_al 4 46), (46, op_il 3 47), (47, op_callV 0 sp_J4_charAt_5068e 2 0 50), (50, op_go 54), (53, op_ic 0 54), (54, op_cret)]
set_option maxRecDepth 20000 in
theorem tok_X4_state : ∀ q ∈ tab_X4_state, GSnd RX4 cX4_state 5 9 18 (some .char) q.1 q.2 := by
  unfold tab_X4_state
  refine gcons (snd_g (ok_aload_n dX4_state_0 rfl rfl)) ?_
  refine gcons (snd_g (ok_iload_n dX4_state_1 rfl rfl)) ?_
  refine gcons (snd_g (ok_invokevirtual M_X4_isPerson (C := RX4) (T := TX4) (nf := 8) rfl w_138 w_140 w_0 w_20 w_141 ⟨rfl, by decide, by decide, by decide +kernel⟩ (by decide) (by decide) dX4_state_2 rfl)) ?_
  refine gcons (snd_g (ok_if_eq dX4_state_5 rfl rfl)) ?_
  refine gcons (snd_g (ok_iload_n dX4_state_8 rfl rfl)) ?_
  refine gcons (snd_g (ok_if_lt dX4_state_9 rfl rfl)) ?_
  refine gcons (snd_g (ok_iconst dX4_state_12 rfl rfl)) ?_
  refine gcons (snd_g (ok_goto dX4_state_13 rfl)) ?_
  refine gcons (snd_g (ok_iconst dX4_state_16 rfl rfl)) ?_
  refine gcons (snd_g (ok_invokestatic M_X4_checkIndex w_146 w_147 w_20 w_148 ⟨by decide, by decide, by decide +kernel⟩ (by decide) (by decide) dX4_state_17 rfl)) ?_
  refine gcons (snd_g (ok_iload_n dX4_state_20 rfl rfl)) ?_
  refine gcons (snd_g (ok_invokestatic M_X4_isDay w_679 w_680 w_20 w_681 ⟨by decide, by decide, by decide +kernel⟩ (by decide) (by decide) dX4_state_21 rfl)) ?_
  refine gcons (snd_g (ok_invokestatic M_X4_checkArgument w_217 w_218 w_20 w_219 ⟨by decide, by decide, by decide +kernel⟩ (by decide) (by decide) dX4_state_24 rfl)) ?_
  refine gcons (snd_g (ok_aload_n dX4_state_27 rfl rfl)) ?_
  refine gcons (snd_g (ok_iload_n dX4_state_28 rfl rfl)) ?_
  refine gcons (snd_g (ok_iload_n dX4_state_29 rfl rfl)) ?_
  refine gcons (ok_invokevirtualG M_X4_describe (C := RX4) (T := TX4) (nf := 8) rfl w_717 w_719 w_18 w_20 w_720 ⟨rfl, by decide, by decide, by decide +kernel⟩ (by decide) (by decide) dX4_state_30 rfl) ?_
  refine gcons (snd_g (ok_astore dX4_state_33 (by decide) rfl)) ?_
  refine gcons (snd_g (ok_iload_n dX4_state_35 rfl rfl)) ?_
  refine gcons (snd_g (ok_aload dX4_state_36 rfl)) ?_
  refine gcons (snd_g (ok_invokevirtual M_J4_length_8abf5 (C := RJ4) (T := TJ4) (nf := 4) rfl w_888 w_889 w_890 w_41 w_891 ⟨rfl, by decide, by decide, by decide +kernel⟩ (by decide) (by decide) dX4_state_38 rfl)) ?_
  refine gcons (snd_g (ok_icmp_ge dX4_state_41 rfl rfl)) ?_
  refine gcons (snd_g (ok_aload dX4_state_44 rfl)) ?_
  refine gcons (snd_g (ok_iload_n dX4_state_46 rfl rfl)) ?_
  refine gcons (snd_g (ok_invokevirtual M_J4_charAt_5068e (C := RJ4) (T := TJ4) (nf := 4) rfl w_895 w_896 w_897 w_41 w_898 ⟨rfl, by decide, by decide, by decide +kernel⟩ (by decide) (by decide) dX4_state_47 rfl)) ?_
  refine gcons (snd_g (ok_goto dX4_state_50 rfl)) ?_
  refine gcons (snd_g (ok_iconst dX4_state_53 rfl rfl)) ?_
  refine gcons (snd_g (ok_creturn rfl dX4_state_54)) ?_
  exact fun _ h => nomatch h
def sp_X4_state : Spc := fun av s N X => match av with
  | [.inl (.inr (1, 0)), .inl (.inl p), .inl (.inl t), .inl (.inl i)] => CI s ∧ GI s ∧ s.1 12 = 0 ∧ s.1 17 = 0 ∧ s.1 1 ≤ 30 ∧ chk (iC s 0 p ∧ 0 ≤ i) 1 s X (chk (0 ≤ t ∧ t ≤ 1000000) 2 s X (N (some (aI (chC s p t i))) s))
  | _ => False
set_option maxRecDepth 20000 in
set_option maxHeartbeats 2000000 in
theorem M_X4_state : GMet yX4_state cX4_state 5 (some .char) 9 18 sp_X4_state := by
  refine GMet.mkd (own := RX4) (by decide) rfl [0, 1, 2, 3, 4] rfl tok_X4_state 200 ?_
  intro av s0 N X h
  unfold sp_X4_state at h
  split at h
  rotate_left
  · exact h.elim
  rename_i p t i
  obtain ⟨hC, hG, h12, h17, h30, h⟩ := h
  have h14 := (of_eq_true hG).2.2.1
  refine ⟨h12, rfl, by decide, Nat.le_of_ble_eq_true rfl, fun hp => ?_, fun hp => ?_⟩
  rotate_left
  · exact ⟨fun _ => ⟨by decide, Nat.le_of_ble_eq_true rfl, fun _ => h.1 fun q => hp q.1, fun q => absurd rfl q⟩, fun q => absurd rfl q⟩
  refine ⟨fun q => absurd q (by decide), fun _ => ⟨fun hi => ?_, fun hi => ?_⟩⟩
  · exact ⟨by decide, Nat.le_of_ble_eq_true rfl, fun _ => h.1 fun q => Int32.not_le.mpr hi q.2, fun q => absurd rfl q⟩
  have h0 : 0 ≤ i := Int32.not_lt.mp hi
  have h := h.2 ⟨hp, h0⟩
  refine ⟨by decide, Nat.le_of_ble_eq_true rfl, fun q => absurd q (by decide), fun _ => ⟨by decide, Nat.le_of_ble_eq_true rfl, fun ht => ?_, fun ht => ?_⟩⟩
  rotate_left
  · exact ⟨by decide, Nat.le_of_ble_eq_true rfl, fun _ => h.1 ht, fun q => absurd rfl q⟩
  have h := h.2 ht
  refine ⟨by decide, Nat.le_of_ble_eq_true rfl, fun q => absurd q (by decide), fun _ => ?_⟩
  refine ⟨rfl, by decide, Nat.le_of_ble_eq_true rfl, trivial, (rfl : (0 : Nat) = 0), hC, h12, h14, h17, h30, fun s1 hT1 hD1 => ?_⟩
  have hS1 := TX_S hT1
  have hS1' := of_eq_true hS1
  have hL1 := SBS_L hS1
  have hct : s1.2.1 18 0 3 = nI (dsL s0 p t).length := hS1'.2.2.2.2.2.2.1
  have hlen := dsL_len (s := s0) (p := p) (t := t)
  refine ⟨hL1, by decide, Nat.le_of_ble_eq_true rfl, hL1, ?_⟩
  rw [hct]
  obtain ⟨q, hq, rfl⟩ := nI_of hi
  have hcq : cl (nI q) = q := nI_clamp hq
  unfold chC at h
  rw [hcq] at h
  refine ⟨fun hge => ?_, fun hlt => ?_⟩
  · have hge' : (dsL s0 p t).length ≤ q := (nI_leI (by omega) hq).mp hge
    rw [List.getD_eq_getElem?_getD, List.getElem?_eq_none hge'] at h
    exact ⟨by decide, ⟨0, by decide, rfl⟩, s0, hD1, h⟩
  · have hlt' : q < (dsL s0 p t).length := Nat.lt_of_not_le fun hc => hlt ((nI_leI (by omega) hq).mpr hc)
    have hb := dsL_b (p := p) (t := t) hC h30 ((dsL s0 p t).getD q 0) (by rw [List.getD_eq_getElem?_getD, List.getElem?_eq_getElem hlt']; exact List.getElem_mem hlt')
    refine ⟨hL1, by decide, Nat.le_of_ble_eq_true rfl, (dsL s0 p t).length, q, (dsL s0 p t).getD q 0, hS1, hlt', rfl, hb, (of_eq_true hT1).2 q hlt', by decide, ⟨_, by omega, rfl⟩, s0, hD1, h⟩

