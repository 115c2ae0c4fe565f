/-! VowCourt.describe, state -/
theorem w_41 : (.initialized "java/lang/StringBuilder" : Cond) ∈ TB := TB_mem (List.mem_of_getElem? (i := 41) (by decide +kernel)) rfl
theorem w_721 : (.classLink "VowCourt" 227 "java/lang/StringBuilder" : Cond) ∈ TB := TB_mem (List.mem_of_getElem? (i := 721) (by decide +kernel)) rfl
theorem w_722 : (.instantiable "java/lang/StringBuilder" 4 : Cond) ∈ TB := TB_mem (List.mem_of_getElem? (i := 722) (by decide +kernel)) rfl
theorem w_723 : (.methodLink "VowCourt" 289 ⟨"java/lang/StringBuilder", "<init>", "()V"⟩ : Cond) ∈ TB := TB_mem (List.mem_of_getElem? (i := 723) (by decide +kernel)) rfl
theorem w_724 : (.instanceMethod ⟨"java/lang/StringBuilder", "<init>", "()V"⟩ : Cond) ∈ TB := TB_mem (List.mem_of_getElem? (i := 724) (by decide +kernel)) rfl
theorem w_725 : (.code yJ4_init_da8c8 cJ4_init_da8c8 1 none : Cond) ∈ TB := TB_mem (List.mem_of_getElem? (i := 725) (by decide +kernel)) rfl
theorem w_752 : (.methodLink "VowCourt" 292 ⟨"java/lang/StringBuilder", "append", "(Ljava/lang/String;)Ljava/lang/StringBuilder;"⟩ : Cond) ∈ TB := TB_mem (List.mem_of_getElem? (i := 752) (by decide +kernel)) rfl
theorem w_753 : (.instanceMethod ⟨"java/lang/StringBuilder", "append", "(Ljava/lang/String;)Ljava/lang/StringBuilder;"⟩ : Cond) ∈ TB := TB_mem (List.mem_of_getElem? (i := 753) (by decide +kernel)) rfl
theorem w_754 : (.selects "java/lang/StringBuilder" ⟨"java/lang/StringBuilder", "append", "(Ljava/lang/String;)Ljava/lang/StringBuilder;"⟩ ⟨"java/lang/StringBuilder", "append", "(Ljava/lang/String;)Ljava/lang/StringBuilder;"⟩ : Cond) ∈ TB := TB_mem (List.mem_of_getElem? (i := 754) (by decide +kernel)) rfl
theorem w_755 : (.code yJ4_append_15ec4 cJ4_append_15ec4 2 (some (.object "java/lang/StringBuilder")) : Cond) ∈ TB := TB_mem (List.mem_of_getElem? (i := 755) (by decide +kernel)) rfl
theorem w_858 : (.methodLink "VowCourt" 298 ⟨"java/lang/StringBuilder", "append", "(I)Ljava/lang/StringBuilder;"⟩ : Cond) ∈ TB := TB_mem (List.mem_of_getElem? (i := 858) (by decide +kernel)) rfl
theorem w_859 : (.instanceMethod ⟨"java/lang/StringBuilder", "append", "(I)Ljava/lang/StringBuilder;"⟩ : Cond) ∈ TB := TB_mem (List.mem_of_getElem? (i := 859) (by decide +kernel)) rfl
theorem w_860 : (.selects "java/lang/StringBuilder" ⟨"java/lang/StringBuilder", "append", "(I)Ljava/lang/StringBuilder;"⟩ ⟨"java/lang/StringBuilder", "append", "(I)Ljava/lang/StringBuilder;"⟩ : Cond) ∈ TB := TB_mem (List.mem_of_getElem? (i := 860) (by decide +kernel)) rfl
theorem w_861 : (.code yJ4_append_bf812 cJ4_append_bf812 2 (some (.object "java/lang/StringBuilder")) : Cond) ∈ TB := TB_mem (List.mem_of_getElem? (i := 861) (by decide +kernel)) rfl
theorem w_884 : (.methodLink "VowCourt" 303 ⟨"VowCourt$Vow", "partnerOf", "(I)I"⟩ : Cond) ∈ TB := TB_mem (List.mem_of_getElem? (i := 884) (by decide +kernel)) rfl
theorem w_885 : (.instanceMethod ⟨"VowCourt$Vow", "partnerOf", "(I)I"⟩ : Cond) ∈ TB := TB_mem (List.mem_of_getElem? (i := 885) (by decide +kernel)) rfl
theorem w_886 : (.selects "VowCourt$Vow" ⟨"VowCourt$Vow", "partnerOf", "(I)I"⟩ ⟨"VowCourt$Vow", "partnerOf", "(I)I"⟩ : Cond) ∈ TB := TB_mem (List.mem_of_getElem? (i := 886) (by decide +kernel)) rfl
theorem w_887 : (.code yX3_partnerOf cX3_partnerOf 2 (some .int) : Cond) ∈ TB := TB_mem (List.mem_of_getElem? (i := 887) (by decide +kernel)) rfl
/-- the same, but for a builder -/
def drp (s0 s' : Sg) : Prop := (s0.1 12 = 0 ∧ s'.1 14 = 0 ∧ s'.1 17 = 0 ∧ s'.2.2 = s0.2.2 ∧ (∀ k, ¬ k = 12 → ¬ k = 13 → s'.1 k = s0.1 k) ∧ ∀ t i j, ¬ t = 18 → ¬ t = 19 → ¬ t = 58 → s'.2.1 t i j = s0.2.1 t i j) = True
theorem drp_eq {s0 s' : Sg} (h : drp s0 s') {t i j : Nat} (ht : t < 18) : s'.2.1 t i j = s0.2.1 t i j := (of_eq_true h).2.2.2.2.2 t i j (by omega) (by omega) (by omega)
theorem drp_1 {s0 s' : Sg} (h : drp s0 s') {k : Nat} (hk : k < 12) : s'.1 k = s0.1 k := (of_eq_true h).2.2.2.2.1 k (by omega) (by omega)
theorem drp_new {s : Sg} (h12 : s.1 12 = 0) (h14 : s.1 14 = 0) (h17 : s.1 17 = 0) : drp s (newB s) := eq_true ⟨h12, (newB_1 (by decide) (by decide)).trans h14, (newB_1 (by decide) (by decide)).trans h17, rfl, fun _ h h' => newB_1 h h', fun t i j h18 h19 _ => newB_2 (by omega)⟩
theorem drp_eqB {s s1 s2 : Sg} {c c2 : Nat} (h : drp s s1) (hE : eqB s1 s2 c) (hS : SBS s2 c2) : drp s s2 := by
  have a := of_eq_true h
  have b := of_eq_true hE
  have d := of_eq_true hS
  refine eq_true ⟨a.1, d.2.2.1, d.2.1, b.1.trans a.2.2.2.1, fun k h12 h13 => ?_, fun t i j h18 h19 h58 => (b.2.2.1 t i j h18 h19 h58).trans (a.2.2.2.2.2 t i j h18 h19 h58)⟩
  by_cases h17 : k = 17
  · subst h17
    rw [d.2.1, ← a.2.2.2.2.1 17 (by decide) (by decide)]
    exact a.2.2.1.symm
  · exact (b.2.1 k h13 h17).trans (a.2.2.2.2.1 k h12 h13)
theorem CI_drp {s s' : Sg} (h : drp s s') (hC : CI s) : CI s' := by
  have c := of_eq_true hC
  have e0 : s'.1 0 = s.1 0 := drp_1 h (by decide)
  have e1 : s'.1 1 = s.1 1 := drp_1 h (by decide)
  have hg : ∀ a, a < 3 → Gd s a → Gd s' a := fun a ha q => by
    have q' := of_eq_true q
    exact eq_true ⟨by rw [drp_1 h (by omega), drp_1 h (by omega)]; exact q'.1, by rw [drp_1 h (by omega)]; exact q'.2⟩
  have hi0 : ∀ x, iC s 0 x → iC s' 0 x := fun x q => by unfold iC at q ⊢; rw [e0]; exact q
  have hi1 : ∀ x, iC s 1 x → iC s' 1 x := fun x q => by unfold iC at q ⊢; rw [e1]; exact q
  refine eq_true ⟨hg 0 (by decide) c.1, hg 1 (by decide) c.2.1, hg 2 (by decide) c.2.2.1, by rw [e0]; exact c.2.2.2.1, fun v hv => ?_, fun v hv => ?_⟩
  · have hv' : Lv s 13 v := by
      have q : v < s'.1 1 + s'.1 7 := hv
      rw [e1, drp_1 h (by decide)] at q
      exact q
    rw [drp_eq h (by decide), drp_eq h (by decide)]
    exact ⟨hi0 _ (c.2.2.2.2.1 v hv').1, hi0 _ (c.2.2.2.2.1 v hv').2⟩
  · have hv' : Lv s 14 v := by
      have q : v < s'.1 2 + s'.1 8 := hv
      rw [drp_1 h (by decide), drp_1 h (by decide)] at q
      exact q
    rw [drp_eq h (by decide)]
    exact hi1 _ (c.2.2.2.2.2 v hv')
theorem lbC_cg {s s' : Sg} (h : ∀ i j, s'.2.1 13 i j = s.2.1 13 i j) (p t : Int32) : ∀ f i, lbC s' p t f i = lbC s p t f i
  | 0, _ => rfl
  | f + 1, i => by
    have e : boC s' i p t = boC s i p t := by unfold boC; rw [h, h, h, h, h]
    rw [lbC, lbC, e, lbC_cg h p t f]
theorem lbC_or {s : Sg} {p t : Int32} : ∀ f i, lbC s p t f i = -1 ∨ ∃ v, i ≤ v ∧ v < i + f ∧ lbC s p t f i = nI v ∧ boC s v p t
  | 0, _ => Or.inl rfl
  | f + 1, i => by
    rw [lbC]
    by_cases hb : boC s i p t
    · rw [iteP_t hb]
      exact Or.inr ⟨i, Nat.le_refl _, by omega, rfl, hb⟩
    · rw [iteP_f hb]
      rcases lbC_or f (i + 1) with h | ⟨v, h1, h2, h3, h4⟩
      · exact Or.inl h
      · exact Or.inr ⟨v, by omega, by omega, h3, h4⟩
/-- the text that describes a person's state on a day -/
def ltx (i : Nat) : List Nat := [[102, 114, 101, 101], [98, 111, 117, 110, 100, 32, 98, 121, 32], [32, 116, 111, 32]].getD i []
def numL (n : Nat) : List Nat := if n < 10 then [48 + n % 10] else [48 + n / 10, 48 + n % 10]
theorem ltx_ok : ∀ i, i < 3 → (ltx i).length = litN i ∧ ∀ j, j < litN i → litC i j = nI ((ltx i).getD j 0) := by decide
theorem numL_len (n : Nat) : (numL n).length = dgN n := by unfold numL dgN; split <;> rfl
theorem numL_ok {n j : Nat} (h : j < dgN n) : dgD n j = (numL n).getD j 0 := by
  unfold dgN at h
  unfold dgD numL
  by_cases h10 : n < 10
  · rw [if_pos h10] at h ⊢
    obtain rfl : j = 0 := by omega
    rw [if_pos rfl, if_pos h10]; rfl
  · rw [if_neg h10] at h ⊢
    have : j = 0 ∨ j = 1 := by omega
    rcases this with rfl | rfl
    · rw [if_pos rfl, if_neg h10]; rfl
    · rw [if_neg (show ¬ (1 : Nat) = 0 by decide), if_neg h10]; rfl
def ptC (s : Sg) (v : Nat) (p : Int32) : Int32 := if p = s.2.1 13 v 0 then s.2.1 13 v 1 else s.2.1 13 v 0
noncomputable def dsL (s : Sg) (p t : Int32) : List Nat := if lbC s p t (s.1 1) 0 = -1 then ltx 0 else ltx 1 ++ numL (cl (lbC s p t (s.1 1) 0)) ++ ltx 2 ++ numL (cl (ptC s (cl (lbC s p t (s.1 1) 0)) p))
/-- a builder that holds a text -/
def TX (s : Sg) (l : List Nat) : Prop := (SBS s l.length ∧ ∀ j, j < l.length → s.2.1 19 0 j = nI (l.getD j 0)) = True
theorem TX_app {s s' : Sg} {l m : List Nat} {n : Nat} (h : TX s l) (hn : m.length = n) (hS : SBS s' (l.length + n)) (hE : eqB s s' l.length) (hB : ∀ j, j < n → s'.2.1 19 0 (l.length + j) = nI (m.getD j 0)) : TX s' (l ++ m) := by
  subst hn
  have h' := of_eq_true h
  have e := of_eq_true hE
  refine eq_true ⟨by rw [List.length_append]; exact hS, fun j hj => ?_⟩
  rw [List.length_append] at hj
  by_cases hjl : j < l.length
  · rw [e.2.2.2 j hjl, h'.2 j hjl, List.getD_eq_getElem?_getD, List.getD_eq_getElem?_getD, List.getElem?_append_left hjl]
  · have := hB (j - l.length) (by omega)
    rw [show l.length + (j - l.length) = j by omega] at this
    rw [this, List.getD_eq_getElem?_getD, List.getD_eq_getElem?_getD, List.getElem?_append_right (by omega)]
theorem SBS_newB {s : Sg} (h14 : s.1 14 = 0) (h17 : s.1 17 = 0) : SBS (newB s) 0 := eq_true ⟨newB_12, (newB_1 (by decide) (by decide)).trans h17, (newB_1 (by decide) (by decide)).trans h14, Or.inl newB_13, Nat.zero_le _, newB_0 (Or.inl rfl), newB_0 (Or.inl rfl), fun j => by rw [newB_0 (Or.inr rfl)]; rfl⟩
theorem TX_newB {s : Sg} (h14 : s.1 14 = 0) (h17 : s.1 17 = 0) : TX (newB s) [] := eq_true ⟨SBS_newB h14 h17, fun j hj => absurd hj (Nat.not_lt_zero j)⟩
theorem TX_S {s : Sg} {l : List Nat} (h : TX s l) : SBS s l.length := (of_eq_true h).1
theorem dX4_describe_0 : decode cX4_describe 0 = .ok (.new 227, 3) := by decide +kernel
theorem dX4_describe_3 : decode cX4_describe 3 = .ok (.dup, 1) := by decide +kernel
theorem dX4_describe_4 : decode cX4_describe 4 = .ok (.invokespecial 289, 3) := by decide +kernel
theorem dX4_describe_7 : decode cX4_describe 7 = .ok (.astore_n 3, 1) := by decide +kernel
theorem dX4_describe_8 : decode cX4_describe 8 = .ok (.aload_n 0, 1) := by decide +kernel
theorem dX4_describe_9 : decode cX4_describe 9 = .ok (.iload_n 1, 1) := by decide +kernel
theorem dX4_describe_10 : decode cX4_describe 10 = .ok (.iload_n 2, 1) := by decide +kernel
theorem dX4_describe_11 : decode cX4_describe 11 = .ok (.aload_n 0, 1) := by decide +kernel
theorem dX4_describe_12 : decode cX4_describe 12 = .ok (.getfield 16, 3) := by decide +kernel
theorem dX4_describe_15 : decode cX4_describe 15 = .ok (.invokevirtual 60, 3) := by decide +kernel
theorem dX4_describe_18 : decode cX4_describe 18 = .ok (.invokevirtual 215, 3) := by decide +kernel
theorem dX4_describe_21 : decode cX4_describe 21 = .ok (.istore 4, 2) := by decide +kernel
theorem dX4_describe_23 : decode cX4_describe 23 = .ok (.iload 4, 2) := by decide +kernel
theorem dX4_describe_25 : decode cX4_describe 25 = .ok (.iconst (-1), 1) := by decide +kernel
theorem dX4_describe_26 : decode cX4_describe 26 = .ok (.if_icmp .ne 11, 3) := by decide +kernel
theorem dX4_describe_29 : decode cX4_describe 29 = .ok (.aload_n 3, 1) := by decide +kernel
theorem dX4_describe_30 : decode cX4_describe 30 = .ok (.ldc_w 290, 3) := by decide +kernel
theorem dX4_describe_33 : decode cX4_describe 33 = .ok (.invokevirtual 292, 3) := by decide +kernel
theorem dX4_describe_36 : decode cX4_describe 36 = .ok (.areturn, 1) := by decide +kernel
theorem dX4_describe_37 : decode cX4_describe 37 = .ok (.aload_n 3, 1) := by decide +kernel
theorem dX4_describe_38 : decode cX4_describe 38 = .ok (.ldc_w 296, 3) := by decide +kernel
theorem dX4_describe_41 : decode cX4_describe 41 = .ok (.invokevirtual 292, 3) := by decide +kernel
theorem dX4_describe_44 : decode cX4_describe 44 = .ok (.iload 4, 2) := by decide +kernel
theorem dX4_describe_46 : decode cX4_describe 46 = .ok (.invokevirtual 298, 3) := by decide +kernel
theorem dX4_describe_49 : decode cX4_describe 49 = .ok (.pop, 1) := by decide +kernel
theorem dX4_describe_50 : decode cX4_describe 50 = .ok (.aload_n 3, 1) := by decide +kernel
theorem dX4_describe_51 : decode cX4_describe 51 = .ok (.ldc_w 301, 3) := by decide +kernel
theorem dX4_describe_54 : decode cX4_describe 54 = .ok (.invokevirtual 292, 3) := by decide +kernel
theorem dX4_describe_57 : decode cX4_describe 57 = .ok (.aload_n 0, 1) := by decide +kernel
theorem dX4_describe_58 : decode cX4_describe 58 = .ok (.iload 4, 2) := by decide +kernel
theorem dX4_describe_60 : decode cX4_describe 60 = .ok (.invokevirtual 124, 3) := by decide +kernel
theorem dX4_describe_63 : decode cX4_describe 63 = .ok (.iload_n 1, 1) := by decide +kernel
theorem dX4_describe_64 : decode cX4_describe 64 = .ok (.invokevirtual 303, 3) := by decide +kernel
theorem dX4_describe_67 : decode cX4_describe 67 = .ok (.invokevirtual 298, 3) := by decide +kernel
theorem dX4_describe_70 : decode cX4_describe 70 = .ok (.areturn, 1) := by decide +kernel
def tab_X4_describe : List (Nat × Sem) := [(0, op_newSB 7), (7, op_as 3 8), (8, op_al 0 9), (9, op_il 1 10), (10, op_il 2 11), (11, op_al 0 12), (12, op_gf 6 1 15), (15, op_callV 1 sp_Jx4a65c_size_8abf5 1 0 18), (18, op_callV 6 sp_X4_lowestBond 4 0 21), (21, op_is 4 23), (23, op_il 4 25), (25, op_ic (-1) 26), (26, op_cmp (fun x y => ¬ x = y) 37 29), (29, op_al 3 30), (30, op_lit 0 33), (33, op_callGV 0 sp_J4_append_15ec4 2 2 36), (36, op_aret), (37, op_al 3 38), (38, op_lit 1 41), (41, op_callGV 0 sp_J4_append_15ec4 2 2 44), (44, op_il 4 46), (46, op_callGV 0 sp_J4_append_bf812 2 2 49), (49, op_pop 50), (50, op_al 3 51), (51, op_lit 2 54), (54, op_callGV 0 sp_J4_append_15ec4 2 2 57), (57, op_al 0 58), (58, op_il 4 60), (60, op_callV 6 sp_X4_vowAt 2 1 63), (63, op_il 1 64), (64, op_callV 5 sp_X3_partnerOf 2 0 67), (67, op_callGV 0 sp_J4_append_bf812 2 2 70), (70, op_aret)]
set_option maxRecDepth 20000 in
theorem tok_X4_describe : ∀ q ∈ tab_X4_describe, GSnd RX4 cX4_describe 5 8 14 (some (.object "java/lang/StringBuilder")) q.1 q.2 := by
  unfold tab_X4_describe
  refine gcons (ok_newSB w_721 w_722 w_41 w_723 w_724 w_725 (by decide) dX4_describe_0 dX4_describe_3 dX4_describe_4 rfl) ?_
  refine gcons (snd_g (ok_astore_n dX4_describe_7 rfl (by decide) rfl)) ?_
  refine gcons (snd_g (ok_aload_n dX4_describe_8 rfl rfl)) ?_
  refine gcons (snd_g (ok_iload_n dX4_describe_9 rfl rfl)) ?_
  refine gcons (snd_g (ok_iload_n dX4_describe_10 rfl rfl)) ?_
  refine gcons (snd_g (ok_aload_n dX4_describe_11 rfl rfl)) ?_
  refine gcons (snd_g (ok_getfield (C := RX4) (T := TX4) (n := 8) rfl in_X4 (by decide) w_99 dX4_describe_12 rfl)) ?_
  refine gcons (snd_g (ok_invokevirtual M_Jx4a65c_size_8abf5 (C := RJx4a65c) (T := TJx4a65c) (nf := 3) rfl w_142 w_143 w_144 w_23 w_145 ⟨rfl, by decide, by decide, by decide +kernel⟩ (by decide) (by decide) dX4_describe_15 rfl)) ?_
  refine gcons (snd_g (ok_invokevirtual M_X4_lowestBond (C := RX4) (T := TX4) (nf := 8) rfl w_514 w_516 w_12 w_20 w_517 ⟨rfl, by decide, by decide, by decide +kernel⟩ (by decide) (by decide) dX4_describe_18 rfl)) ?_
  refine gcons (snd_g (ok_istore dX4_describe_21 (by decide) rfl)) ?_
  refine gcons (snd_g (ok_iload dX4_describe_23 rfl)) ?_
  refine gcons (snd_g (ok_iconst dX4_describe_25 rfl rfl)) ?_
  refine gcons (snd_g (ok_icmp_ne dX4_describe_26 rfl rfl)) ?_
  refine gcons (snd_g (ok_aload_n dX4_describe_29 rfl rfl)) ?_
  refine gcons (snd_g (ok_lit (by decide) rfl dX4_describe_30 rfl)) ?_
  refine gcons (ok_invokevirtualG M_J4_append_15ec4 (C := RJ4) (T := TJ4) (nf := 4) rfl w_752 w_753 w_754 w_41 w_755 ⟨rfl, by decide, by decide, by decide +kernel⟩ (by decide) (by decide) dX4_describe_33 rfl) ?_
  refine gcons (snd_g (ok_areturn rfl dX4_describe_36)) ?_
  refine gcons (snd_g (ok_aload_n dX4_describe_37 rfl rfl)) ?_
  refine gcons (snd_g (ok_lit (by decide) rfl dX4_describe_38 rfl)) ?_
  refine gcons (ok_invokevirtualG M_J4_append_15ec4 (C := RJ4) (T := TJ4) (nf := 4) rfl w_752 w_753 w_754 w_41 w_755 ⟨rfl, by decide, by decide, by decide +kernel⟩ (by decide) (by decide) dX4_describe_41 rfl) ?_
  refine gcons (snd_g (ok_iload dX4_describe_44 rfl)) ?_
  refine gcons (ok_invokevirtualG M_J4_append_bf812 (C := RJ4) (T := TJ4) (nf := 4) rfl w_858 w_859 w_860 w_41 w_861 ⟨rfl, by decide, by decide, by decide +kernel⟩ (by decide) (by decide) dX4_describe_46 rfl) ?_
  refine gcons (snd_g (ok_pop dX4_describe_49 rfl)) ?_
  refine gcons (snd_g (ok_aload_n dX4_describe_50 rfl rfl)) ?_
  refine gcons (snd_g (ok_lit (by decide) rfl dX4_describe_51 rfl)) ?_
  refine gcons (ok_invokevirtualG M_J4_append_15ec4 (C := RJ4) (T := TJ4) (nf := 4) rfl w_752 w_753 w_754 w_41 w_755 ⟨rfl, by decide, by decide, by decide +kernel⟩ (by decide) (by decide) dX4_describe_54 rfl) ?_
  refine gcons (snd_g (ok_aload_n dX4_describe_57 rfl rfl)) ?_
  refine gcons (snd_g (ok_iload dX4_describe_58 rfl)) ?_
  refine gcons (snd_g (ok_invokevirtual M_X4_vowAt (C := RX4) (T := TX4) (nf := 8) rfl w_506 w_508 w_10 w_20 w_509 ⟨rfl, by decide, by decide, by decide +kernel⟩ (by decide) (by decide) dX4_describe_60 rfl)) ?_
  refine gcons (snd_g (ok_iload_n dX4_describe_63 rfl rfl)) ?_
  refine gcons (snd_g (ok_invokevirtual M_X3_partnerOf (C := RX3) (T := TX3) (nf := 8) rfl w_884 w_885 w_886 w_38 w_887 ⟨rfl, by decide, by decide, by decide +kernel⟩ (by decide) (by decide) dX4_describe_64 rfl)) ?_
  refine gcons (ok_invokevirtualG M_J4_append_bf812 (C := RJ4) (T := TJ4) (nf := 4) rfl w_858 w_859 w_860 w_41 w_861 ⟨rfl, by decide, by decide, by decide +kernel⟩ (by decide) (by decide) dX4_describe_67 rfl) ?_
  refine gcons (snd_g (ok_areturn rfl dX4_describe_70)) ?_
  exact fun _ h => nomatch h
def sp_X4_describe : Spc := fun av s N _ => match av with
  | [.inl (.inr (1, 0)), .inl (.inl p), .inl (.inl t)] => CI s ∧ s.1 12 = 0 ∧ s.1 14 = 0 ∧ s.1 17 = 0 ∧ s.1 1 ≤ 30 ∧ ∀ s', TX s' (dsL s p t) → drp s s' → N (some (aR 18 0)) s'
  | _ => False
set_option maxRecDepth 20000 in
set_option maxHeartbeats 2000000 in
theorem M_X4_describe : GMet yX4_describe cX4_describe 5 (some (.object "java/lang/StringBuilder")) 8 14 sp_X4_describe := by
  refine GMet.mk (own := RX4) (by decide) rfl [0, 1, 2, 3, 4] rfl tok_X4_describe 200 ?_
  intro av s0 N X h
  unfold sp_X4_describe at h
  split at h
  rotate_left
  · exact h.elim
  rename_i p t
  obtain ⟨hC, h12, h14, h17, h30, h⟩ := h
  have hD0 := drp_new h12 h14 h17
  have hT0 := TX_newB h14 h17
  have hS0 := TX_S hT0
  have hL0 := SBS_L hS0
  have hC0 := CI_drp hD0 hC
  have e1 : (newB s0).1 1 = s0.1 1 := newB_1 (by decide) (by decide)
  have hlb : lbC (newB s0) p t (s0.1 1) 0 = lbC s0 p t (s0.1 1) 0 := lbC_cg (fun i j => drp_eq hD0 (by decide)) p t _ _
  refine ⟨by decide, h12, h14, Nat.le_of_ble_eq_true rfl, trivial, (rfl : (0 : Nat) = 0), ?_⟩
  refine ⟨rfl, (by decide : 1 < 3), by decide, Nat.le_of_ble_eq_true rfl, by decide, rfl, by decide, Nat.le_of_ble_eq_true rfl, hC0, s0.1 1, by rw [e1], Nat.le_of_eq e1.symm, ?_⟩
  rw [hlb]
  obtain ⟨R, hR⟩ : ∃ z, z = lbC s0 p t (s0.1 1) 0 := ⟨_, rfl⟩
  rw [← hR]
  unfold dsL at h
  rw [← hR] at h
  rcases lbC_or (s := s0) (p := p) (t := t) (s0.1 1) 0 with hm | ⟨v, -, hv, hm, -⟩
  · obtain rfl : R = -1 := hR.trans hm
    rw [if_pos rfl] at h
    refine ⟨fun q => absurd rfl q, fun _ => ⟨hL0, by decide, Nat.le_of_ble_eq_true rfl, trivial, (rfl : (0 : Nat) = 0), hL0, 0, by decide, hS0, by decide, fun s1 hS1 hE1 hB1 => ⟨by decide, ?_⟩⟩⟩
    exact h s1 (TX_app (l := []) hT0 (ltx_ok 0 (by decide)).1 hS1 hE1 (fun j hj => (hB1 j hj).trans ((ltx_ok 0 (by decide)).2 j hj))) (drp_eqB hD0 hE1 hS1)
  · obtain rfl : R = nI v := hR.trans hm
    rw [Nat.zero_add] at hv
    have hne : ¬ nI v = -1 := fun q => by
      have := nI_pos' (n := v) (by omega)
      rw [q] at this
      exact absurd this (by decide)
    have hcv : cl (nI v) = v := nI_clamp (by omega)
    rw [if_neg hne, hcv] at h
    have hd2 := dgN_le v
    refine ⟨fun _ => ⟨hL0, by decide, Nat.le_of_ble_eq_true rfl, trivial, (rfl : (0 : Nat) = 0), hL0, 0, by decide, hS0, by decide, fun s1 hS1 hE1 hB1 => ?_⟩, fun q => absurd hne q⟩
    have hT1 : TX s1 (ltx 1) := TX_app (l := []) hT0 (ltx_ok 1 (by decide)).1 hS1 hE1 (fun j hj => (hB1 j hj).trans ((ltx_ok 1 (by decide)).2 j hj))
    have hD1 := drp_eqB hD0 hE1 hS1
    have hL1 := SBS_L hS1
    refine ⟨hL1, by decide, Nat.le_of_ble_eq_true rfl, trivial, (rfl : (0 : Nat) = 0), hL1, v, 9, by omega, rfl, hS1, by omega, fun s2 hS2 hE2 hB2 => ?_⟩
    have hT2 : TX s2 (ltx 1 ++ numL v) := TX_app (l := ltx 1) hT1 (numL_len v) hS2 hE2 (fun j hj => (hB2 j hj).trans (congrArg nI (numL_ok hj)))
    have hD2 := drp_eqB hD1 hE2 hS2
    have hL2 := SBS_L hS2
    refine ⟨hL2, by decide, Nat.le_of_ble_eq_true rfl, trivial, (rfl : (0 : Nat) = 0), hL2, 9 + dgN v, by decide, hS2, by (show 9 + dgN v + 4 ≤ 34); omega, fun s3 hS3 hE3 hB3 => ?_⟩
    have hl2 : (ltx 1 ++ numL v).length = 9 + dgN v := by rw [List.length_append, numL_len]; rfl
    have hT3 : TX s3 (ltx 1 ++ numL v ++ ltx 2) := TX_app (l := ltx 1 ++ numL v) hT2 (ltx_ok 2 (by decide)).1 (by rw [hl2]; exact hS3) (by rw [hl2]; exact hE3) (fun j hj => by rw [hl2]; exact (hB3 j hj).trans ((ltx_ok 2 (by decide)).2 j hj))
    have hD3 := drp_eqB hD2 hE3 hS3
    have hL3 := SBS_L hS3
    have hC3 := CI_drp hD3 hC
    have e3 : s3.1 1 = s0.1 1 := drp_1 hD3 (by decide)
    have hi3 : iC s3 1 (nI v) := eq_true ⟨nI_pos' (by omega), by rw [e3]; exact nI_lt hv (by omega)⟩
    have hv3 : Lv s3 13 v := by
      show v < s3.1 1 + s3.1 7
      rw [e3]
      omega
    have hp24 : s3.1 0 ≤ 24 := (of_eq_true hC3).2.2.2.1
    have hiv := (of_eq_true hC3).2.2.2.2.1 v hv3
    obtain ⟨q0, hq0, eq0⟩ := iC_ex hiv.1 (by omega)
    obtain ⟨q1, hq1, eq1⟩ := iC_ex hiv.2 (by omega)
    have hc0 : cl (nI q0) = q0 := nI_clamp (by omega)
    have hc1 : cl (nI q1) = q1 := nI_clamp (by omega)
    have hl3 : (ltx 1 ++ numL v ++ ltx 2).length = 9 + dgN v + litN 2 := by rw [List.length_append, hl2]; rfl
    have h13e : ∀ j, s0.2.1 13 v j = s3.2.1 13 v j := fun j => (drp_eq hD3 (by decide)).symm
    unfold ptC at h
    rw [h13e, h13e] at h
    refine ⟨rfl, by decide, Nat.le_of_ble_eq_true rfl, hC3, fun q => absurd hi3 q, fun _ => ?_⟩
    rw [hcv]
    refine ⟨hv3, by decide, Nat.le_of_ble_eq_true rfl, hv3, fun hpe => ?_, fun hpe => ?_⟩
    · rw [if_pos hpe, eq1, hc1] at h
      have hd3 := dgN_le q1
      refine ⟨hL3, by decide, Nat.le_of_ble_eq_true rfl, trivial, (rfl : (0 : Nat) = 0), hL3, q1, 9 + dgN v + litN 2, by omega, eq1, hS3, by (show 9 + dgN v + 4 + dgN q1 ≤ 34); omega, fun s4 hS4 hE4 hB4 => ⟨by decide, ?_⟩⟩
      exact h s4 (TX_app hT3 (numL_len q1) (by rw [hl3]; exact hS4) (by rw [hl3]; exact hE4) (fun j hj => by rw [hl3]; exact (hB4 j hj).trans (congrArg nI (numL_ok hj)))) (drp_eqB hD3 hE4 hS4)
    · rw [if_neg hpe, eq0, hc0] at h
      have hd3 := dgN_le q0
      refine ⟨hL3, by decide, Nat.le_of_ble_eq_true rfl, trivial, (rfl : (0 : Nat) = 0), hL3, q0, 9 + dgN v + litN 2, by omega, eq0, hS3, by (show 9 + dgN v + 4 + dgN q0 ≤ 34); omega, fun s4 hS4 hE4 hB4 => ⟨by decide, ?_⟩⟩
      exact h s4 (TX_app hT3 (numL_len q0) (by rw [hl3]; exact hS4) (by rw [hl3]; exact hE4) (fun j hj => by rw [hl3]; exact (hB4 j hj).trans (congrArg nI (numL_ok hj)))) (drp_eqB hD3 hE4 hS4)

