/-! builders of text: their things -/
theorem gz {g : GPm} {U : State} (h : GS g U) : GZ g U := h.2.2.2.2.2
def litN (i : Nat) : Nat := litL.getD i 0
def litC (i j : Nat) : Int32 := (litB.getD i []).getD j 0
theorem lit_fit : ∀ i, i < 3 → ∀ j, j < litN i → fits .byte (.int (litC i j)) = true := by decide
section SBh
variable {own : String} {cc : ByteArray} {nL d U : Nat} {ret : Option FieldType} {pc nx : Nat}
def op_lit (i nx : Nat) : Sem := fun _ k _ _ u L st s => k nx u L (aR 70 i :: st) s
theorem ok_lit {i idx : Nat} (hi : i < 3) (hx : litP.getD i 0 = idx) (hd : decode cc pc = .ok (.ldc_w idx, 3)) (hn : pc + 3 = nx) : Snd "VowCourt" cc nL d U ret pc (op_lit i nx) := by
  intro g p l e R s m args below meth c w0 hC ad K N X Q hQ k hk u L st s0 h
  subst hn
  subst hx
  intro H locs ls hP hS hl
  have key := hk _ _ _ _ _ h H locs ls hP hS hl
  rw [List.map_cons, show cv ad (aR 70 i) = .ref (g.2.1 (70000 + i)) from congrArg Value.ref (gp_const hP (t := 70) i (by decide))] at key
  have hR := (gz hC.2.1).2.2.2.2.2.1 i hi
  intro T hT Xs
  obtain ⟨t, a1, b1⟩ := key T hT Xs
  exact ⟨t, Xs.ldcStringW hC.1.1 hC.1.2.2.2.1 (text := litT.getD i "") (a := g.2.1 (70000 + i)) hR.1 hR.2 (g := F0 m pc ls (st.map (cv ad))) rfl (by rw [hC.1.2.1]; exact hd) t a1, b1⟩
def op_gfTv (nx : Nat) : Sem := fun _ k _ _ u L st s => match st with
  | .inl (.inr (70, i)) :: st' => i < 3 ∧ k nx u L (aR 71 i :: st') s
  | _ => False
theorem ok_gfTv {idx : Nat} (hw : Cond.fieldLink own idx "java/lang/String" "value" "[B" ∈ TB) (hd : decode cc pc = .ok (.getfield idx, 3)) (hn : pc + 3 = nx) : Snd own cc nL d U ret pc (op_gfTv nx) := by
  intro g p l e R s m args below meth c w0 hC ad K N X Q hQ k hk u L st s0 h
  subst hn
  intro H locs ls hP hS hl
  unfold op_gfTv at h
  split at h
  · rename_i i st'
    obtain ⟨hi, h⟩ := h
    have key := hk _ _ _ _ _ h H locs ls hP hS hl
    rw [List.map_cons, show cv ad (aR 71 i) = .ref (g.2.1 (71000 + i)) from congrArg Value.ref (gp_const hP (t := 71) i (by decide))] at key
    rw [List.map_cons, show cv ad (.inl (.inr (70, i))) = .ref (g.2.1 (70000 + i)) from congrArg Value.ref (gp_const hP (t := 70) i (by decide))]
    exact vk_getf hC.1.1 hC.1.2.1 ((gz hC.2.1).2.2.2.2.1.1 i hi).2.2.1 hS hC.1.2.2.2.1 (hC.1.2.2.2.2 _ (List.mem_cons_of_mem _ hw)) (fun _ q => q) hd key
  · exact h.elim
def op_gfTc (nx : Nat) : Sem := fun _ k _ _ u L st s => match st with
  | .inl (.inr (70, i)) :: st' => i < 3 ∧ k nx u L (aI 0 :: st') s
  | _ => False
theorem ok_gfTc {idx : Nat} (hw : Cond.fieldLink own idx "java/lang/String" "coder" "B" ∈ TB) (hd : decode cc pc = .ok (.getfield idx, 3)) (hn : pc + 3 = nx) : Snd own cc nL d U ret pc (op_gfTc nx) := by
  intro g p l e R s m args below meth c w0 hC ad K N X Q hQ k hk u L st s0 h
  subst hn
  intro H locs ls hP hS hl
  unfold op_gfTc at h
  split at h
  · rename_i i st'
    obtain ⟨hi, h⟩ := h
    have key := hk _ _ _ _ _ h H locs ls hP hS hl
    rw [List.map_cons, show cv ad (.inl (.inr (70, i))) = .ref (g.2.1 (70000 + i)) from congrArg Value.ref (gp_const hP (t := 70) i (by decide))]
    exact vk_getf hC.1.1 hC.1.2.1 ((gz hC.2.1).2.2.2.2.1.1 i hi).2.1 hS hC.1.2.2.2.1 (hC.1.2.2.2.2 _ (List.mem_cons_of_mem _ hw)) (fun _ q => q) hd key
  · exact h.elim
theorem ent_5 {g : GPm} {ad : Nat → Nat → Nat} {s : Sg} {t i n : Nat} (h : ob t = none) (h2 : ar t = some (5, n)) : ent g ad s t i = .inl (g.2.1 5, s.1 n, .inl (s.2.1 t i)) := by
  unfold ent; rw [h, h2]; rfl
def op_alenB (nx : Nat) : Sem := fun _ k _ _ u L st s => match st with
  | .inl (.inr (19, i)) :: st' => Lv s 19 i ∧ k nx u L (aI (nI (s.1 13)) :: st') s
  | .inl (.inr (71, i)) :: st' => i < 3 ∧ k nx u L (aI (nI (litN i)) :: st') s
  | _ => False
theorem ok_alenB (hd : decode cc pc = .ok (.arraylength, 1)) (hn : pc + 1 = nx) : Snd own cc nL d U ret pc (op_alenB nx) := by
  intro g p l e R s m args below meth c w0 hC ad K N X Q hQ k hk u L st s0 h
  subst hn
  intro H locs ls hP hS hl
  unfold op_alenB at h
  split at h
  · rename_i i st'
    obtain ⟨hL, h⟩ := h
    obtain ⟨q0, ha, hK0⟩ := gws_at (g := g) (ad := ad) (s := s0) (hP.2.2.1 19 i hL)
    rw [ent_5 (n := 13) rfl rfl] at ha
    exact va_alen (D := g.1) hC.1.1 hC.1.2.1 hC.2.1.1 hP.1 q0 5 ha rfl (v := nI (s0.1 13)) rfl hd (hk _ _ _ _ _ h H locs ls hP hS hl)
  · rename_i i st'
    obtain ⟨hi, h⟩ := h
    have key := hk _ _ _ _ _ h H locs ls hP hS hl
    rw [List.map_cons, show cv ad (.inl (.inr (71, i))) = .ref (g.2.1 (71000 + i)) from congrArg Value.ref (gp_const hP (t := 71) i (by decide))]
    exact va_tlen hC.1.1 hC.1.2.1 ((gz hC.2.1).2.2.2.2.1.1 i hi).2.2.2 hS (v := nI (litN i)) rfl hd key
  · exact h.elim
def op_nn (tg : Nat) : Sem := fun _ k _ _ u L st s => match st with
  | .inl (.inr _) :: st' => k tg u L st' s
  | _ => False
theorem ok_nn {off : Int} {tg : Nat} (hd : decode cc pc = .ok (.ifnonnull off, 3)) (ht : (pc : Int) + off = (tg : Int)) : Snd own cc nL d U ret pc (op_nn tg) := by
  intro g p l e R s m args below meth c w0 hC ad K N X Q hQ k hk u L st s0 h
  intro H locs ls hP hS hl
  unfold op_nn at h
  split at h
  · exact lv_ifnonnull hC.1.1 hC.1.2.1 hd ht (hk _ _ _ _ _ h H locs ls hP hS hl)
  · exact h.elim
def op_neg (nx : Nat) : Sem := fun _ k _ _ u L st s => match st with
  | .inl (.inl x) :: st' => k nx u L (aI (-x) :: st') s
  | _ => False
theorem ok_ineg (hd : decode cc pc = .ok (.ineg, 1)) (hn : pc + 1 = nx) : Snd own cc nL d U ret pc (op_neg nx) := by
  intro g p l e R s m args below meth c w0 hC ad K N X Q hQ k hk u L st s0 h
  subst hn
  intro H locs ls hP hS hl
  unfold op_neg at h
  split at h
  · exact lv_ineg hC.1.1 hC.1.2.1 hd (hk _ _ _ _ _ h H locs ls hP hS hl)
  · exact h.elim
/-- bytes read: a builder's, a digit -/
def op_bld (nx : Nat) : Sem := fun _ k _ _ u L st s => match st with
  | .inl (.inl j) :: .inl (.inr (19, i)) :: st' => Lv s 19 i ∧ Ib j (s.1 13) ∧ k nx u L (aI (s.2.1 19 i j.toNatClampNeg) :: st') s
  | .inl (.inl j) :: .inl (.inr (72, 0)) :: st' => Ib j 100 ∧ k nx u L (aI (nI (48 + j.toNatClampNeg / 10)) :: st') s
  | .inl (.inl j) :: .inl (.inr (72, 1)) :: st' => Ib j 100 ∧ k nx u L (aI (nI (48 + j.toNatClampNeg % 10)) :: st') s
  | _ => False
theorem ok_bld (hd : decode cc pc = .ok (.baload, 1)) (hn : pc + 1 = nx) : Snd own cc nL d U ret pc (op_bld nx) := by
  intro g p l e R s m args below meth c w0 hC ad K N X Q hQ k hk u L st s0 h
  subst hn
  intro H locs ls hP hS hl
  unfold op_bld at h
  split at h
  · rename_i j i st'
    obtain ⟨hL, hin, h⟩ := h
    obtain ⟨q0, ha, hK0⟩ := gws_at (g := g) (ad := ad) (s := s0) (hP.2.2.1 19 i hL)
    rw [ent_5 (n := 13) rfl rfl] at ha
    exact va_bald (D := g.1) hC.1.1 hC.1.2.1 hC.2.1.1 hP.1 q0 5 ha rfl (of_eq_true hin) hd (hk _ _ _ _ _ h H locs ls hP hS hl)
  · rename_i j st'
    obtain ⟨hin, h⟩ := h
    have key := hk _ _ _ _ _ h H locs ls hP hS hl
    rw [List.map_cons, List.map_cons, show cv ad (.inl (.inr (72, 0))) = .ref (g.2.1 72000) from congrArg Value.ref (gp_const hP 0 (by decide))]
    exact va_tb hC.1.1 hC.1.2.1 (gz hC.2.1).2.2.2.2.2.2.1.2 hS (of_eq_true hin) rfl hd key
  · rename_i j st'
    obtain ⟨hin, h⟩ := h
    have key := hk _ _ _ _ _ h H locs ls hP hS hl
    rw [List.map_cons, List.map_cons, show cv ad (.inl (.inr (72, 1))) = .ref (g.2.1 72001) from congrArg Value.ref (gp_const hP 1 (by decide))]
    exact va_tb hC.1.1 hC.1.2.1 (gz hC.2.1).2.2.2.2.2.2.2.2.1 hS (of_eq_true hin) rfl hd key
  · exact h.elim
/-- a byte written -/
def op_bst (nx : Nat) : Sem := fun _ k _ _ u L st s => match st with
  | .inl (.inl v) :: .inl (.inl j) :: .inl (.inr (19, i)) :: st' => Lv s 19 i ∧ Ib j (s.1 13) ∧ vp_nar .byte v = v ∧ k nx u L st' (stS s 19 i j.toNatClampNeg v)
  | _ => False
theorem ok_bst (hd : decode cc pc = .ok (.bastore, 1)) (hn : pc + 1 = nx) : Snd own cc nL d U ret pc (op_bst nx) := by
  intro g p l e R s m args below meth c w0 hC ad K N X Q hQ k hk u L st s0 h
  subst hn
  intro H locs ls hP hS hl
  unfold op_bst at h
  split at h
  · rename_i v j i st'
    obtain ⟨hL, hin, hv, h⟩ := h
    obtain ⟨q0, ha, hK0⟩ := gws_at (g := g) (ad := ad) (s := s0) (hP.2.2.1 19 i hL)
    rw [ent_5 (n := 13) rfl rfl] at ha
    refine va_bast (D := g.1) hC.1.1 hC.1.2.1 hC.2.1.1 hP.1 hP.2.1 hS q0 5 ha rfl (of_eq_true hin) hd (fun H1 locs1 hP1 hD1 hS1 => ?_)
    rw [hv, upd_stS] at hP1 hD1
    exact hk _ _ _ _ _ h H1 locs1 ls (GP_st hP hK0 (ent_5 (n := 13) rfl rfl) hP1 hD1) hS1 hl
  · exact h.elim
/-- a text's bytes into the builder's row -/
def cpT (s : Sg) (i dp n : Nat) : Sg := (s.1, fun a b c => if a = 19 ∧ b = 0 then va_cpy (litC i) (s.2.1 19 0) 0 dp n c else s.2.1 a b c, s.2.2)
def op_tcopy (nx : Nat) : Sem := fun _ k _ _ u L st s => match st with
  | .inl (.inl n) :: .inl (.inl dp) :: .inl (.inr (19, 0)) :: .inl (.inl sp) :: .inl (.inr (71, i)) :: st' => i < 3 ∧ Lv s 19 0 ∧ sp = 0 ∧ (¬ dp < 0) ∧ (¬ n < 0) ∧ n.toNatClampNeg ≤ litN i ∧ dp.toNatClampNeg + n.toNatClampNeg ≤ s.1 13 ∧ catS st' ≤ 8 ∧ k nx u L st' (cpT s i dp.toNatClampNeg n.toNatClampNeg)
  | _ => False
theorem ok_tcopy {idx : Nat} (h1 : Cond.methodLink own idx arraycopyName ∈ TB) (h2 : Cond.native arraycopyName ∈ TB) (h3 : Cond.static arraycopyName ∈ TB) (h4 : Cond.initialized "java/lang/System" ∈ TB) (hdd : 1 ≤ d)
    (hd : decode cc pc = .ok (.invokestatic idx, 3)) (hn : pc + 3 = nx) : Snd own cc nL d U ret pc (op_tcopy nx) := by
  intro g p l e R s m args below meth c9 w0 hC ad K N X Q hQ k hk u L st s0 h
  subst hn
  intro H locs ls hP hS hl
  unfold op_tcopy at h
  split at h
  · rename_i n dp sp i st'
    obtain ⟨hi, hL, rfl, hdp, hn0, hnl, hnc, hcat, h⟩ := h
    obtain ⟨q0, he0, hK0⟩ := gws_at (g := g) (ad := ad) (s := s0) (hP.2.2.1 19 0 hL)
    rw [ent_5 (n := 13) rfl rfl] at he0
    have ht : ∀ w ∈ TB, w.before args s = true := fun w hw => hC.1.2.2.2.2 w (List.mem_cons_of_mem _ hw)
    have hR := hC.2.2.2.2.1
    subst hR
    have hsp : (0 : Int32).toNatClampNeg = 0 := rfl
    rw [List.map_cons, List.map_cons, List.map_cons, List.map_cons, List.map_cons, show cv ad (.inl (.inr (71, i))) = .ref (g.2.1 (71000 + i)) from congrArg Value.ref (gp_const hP (t := 71) i (by decide))]
    refine vk_copyt (D := g.1) (f := litC i) hC.1.1 hC.1.2.1 (hC.1.2.2.1.trans hl.1.symm) hC.1.2.2.2.1 (ht _ h1) (ht _ h2) (ht _ h3) (ht _ h4) hC.2.1.1 hP.1 hP.2.1 hS ((gz hC.2.1).2.2.2.2.1.1 i hi).2.2.2 q0 5 he0 rfl (by decide) hdp hn0 (by rw [hsp, Nat.zero_add]; exact hnl) hnc (fun j hj => by rw [hsp, Nat.zero_add]; exact lit_fit i hi j (by omega)) (by show 1 ≤ d; exact hdd) ?_ hd (fun H1 locs1 hP1 hD1 hS1 => ?_)
    · show _ + _ ≤ 38 * d
      rw [catS_ok]
      have : nativeFrameWords "java/lang/System" "arraycopy" 5 ≤ 12 := by decide
      omega
    · rw [hsp] at hP1 hD1
      have hoth : ∀ a b, ¬ (a = 19 ∧ b = 0) → ∀ c, (cpT s0 i dp.toNatClampNeg n.toNatClampNeg).2.1 a b c = s0.2.1 a b c := fun a b hh c => if_neg hh
      refine hk _ _ _ _ _ h H1 locs1 ls (GP_stK hP hK0 (s' := cpT s0 i dp.toNatClampNeg n.toNatClampNeg) ?_ (fun z hz hne => ?_) (fun _ _ => Iff.rfl) (fun _ _ hz => hz) hP1 hD1) hS1 hl
      · rw [ent_5 (n := 13) rfl rfl]
        congr 4
      · obtain ⟨x, y⟩ := z
        exact ent_eq (hoth x y fun hh => hne (by rw [hh.1, hh.2])) (fun _ => rfl) (fun _ => rfl) (fun _ => ⟨rfl, rfl⟩) ⟨fun _ => rfl, fun _ => rfl⟩ (fun _ => ⟨rfl, rfl⟩) (fun _ _ _ => rfl)
  · exact h.elim
/-- an answer that is a byte, a char -/
def op_bret : Sem := fun U _ N _ u _ st s => match st with
  | [.inl (.inl v)] => u ≤ U ∧ v = 0 ∧ N (some (aI v)) s
  | _ => False
theorem ok_breturn (hr : ret = some .byte) (hd : decode cc pc = .ok (.ireturn, 1)) : Snd own cc nL d U ret pc op_bret := by
  intro g p l e R s m args below meth c w0 hC ad K N X Q hQ k hk u L st s0 h
  intro H locs ls hP hS hl
  unfold op_bret at h
  split at h
  · rename_i v
    refine W.mono hQ (W.widen (Nat.mul_le_mul_right _ h.1) (Nat.mul_le_mul_right _ h.1) (vx_ret ?_))
    refine W.zret (ty := .byte) hC.1.1 hC.1.2.1 (by rw [hC.2.2.2.1, hr]) ?_ (aQ_ret (v := some (aI v)) hP hS h.2.2) hS.2.2 hd hC.2.2.1
    rw [h.2.1]; rfl
  · exact h.elim
/-- a call of a text's method -/
def op_callT (sp : Spc) (n w nx : Nat) : Sem := fun U k _ X u L st s => popK n [] st (fun as st' => match as with
  | .inl (.inr (70, i)) :: _ => i < 3 ∧ u + w ≤ U ∧ catS st' ≤ 8 ∧ sp as s (fun r s' => match r with
    | some v => k nx (u + w) L (v :: st') s'
    | none => k nx (u + w) L st' s') X
  | _ => False)
theorem ok_callT {y : MethodName} {bytes : ByteArray} {nL' d' w n idx : Nat} {ret' : Option FieldType} {sp : Spc} (hM : AMet y bytes nL' ret' d' w sp)
    (h1 : Cond.methodLink own idx y ∈ TB) (h2 : Cond.instanceMethod y ∈ TB) (h3 : Cond.selects RJ0 y y ∈ TB) (h5 : Cond.initialized RJ0 ∈ TB) (h4 : Cond.code y bytes nL' ret' ∈ TB)
    (hy : y.cls = RJ0 ∧ y.cls ≠ "java/lang/invoke/MethodHandle" ∧ y.cls ≠ "java/lang/invoke/VarHandle" ∧ (parseMethodDescriptor y.desc).map (fun d => d.parameters.length) = some n) (hdd : d' + 1 ≤ d) (hl' : nL' ≤ 19)
    (hd : decode cc pc = .ok (.invokevirtual idx, 3)) (hn : pc + 3 = nx) : Snd own cc nL d U ret pc (op_callT sp (n + 1) w nx) := by
  intro g p l e R s m args below meth c w0 hC ad K N X Q hQ k hk u L st s0 h
  subst hn
  intro H locs ls hP hS hl
  obtain ⟨as, st', h, e1, e2⟩ := popK_ok h
  rw [List.append_nil] at h
  split at h
  · rename_i i tl
    obtain ⟨hi, hu, hcat, hsp⟩ := h
    have hrecv := vk_recv (gz hC.2.1).2.2.2.2.1 hi hS
    rw [← gp_const hP i (show 70 ≤ 70 by decide)] at hrecv
    have hC' := hC
    obtain ⟨hF, hGS, hlk, hret, hR, hl0, htab⟩ := hC'
    subst hR
    have hG : GoodIn (w0 :: TB) (wsV own idx RJ0 y (wsM y bytes nL' ret')) := TB_in (by
      intro w hw
      simp only [wsV, wsM, List.cons_append, List.nil_append, List.mem_cons] at hw
      rcases hw with rfl | rfl | rfl | rfl | rfl | hw
      · exact h1
      · exact h2
      · exact h3
      · exact h5
      · exact h4
      · exact hw)
    refine run_ok hC hQ hu (vx_runV (C := RJ0) (b := ad 70 i) (As := tl.map (cv ad)) (rest := st'.map (cv ad)) hF (hM l hl0 g ad K _ s0 _ X hsp) (cwV n hF.2.2.2.2 hG rfl rfl rfl hy (rm_fit hdd hl'))
      ⟨GP_blind, hrecv, fun U9 hU hW => ⟨rfl, GS_moved hGS hW (locs := locs) (by rw [hU]; exact hS), by rw [hU]; exact hP⟩⟩ rfl (by rw [List.length_map]; simpa using e2) hl.1 ?_ (lv_room (by rw [catS_ok]; exact hcat)) hd
      ⟨by show u * cU + w * cU ≤ U * cU; rw [← Nat.add_mul]; exact Nat.mul_le_mul_right _ hu, by show u * sU + w * sU ≤ U * sU; rw [← Nat.add_mul]; exact Nat.mul_le_mul_right _ hu⟩) hS ?_
    · show st.map (cv ad) = (tl.map (cv ad)).reverse ++ .ref (ad 70 i) :: st'.map (cv ad)
      rw [e1, List.map_append, List.map_reverse]
      simp [cv, cL]
    · intro v s' H1 locs1 hN hP1 hS1
      cases v with
      | none => exact hk _ _ _ _ _ hN H1 locs1 ls hP1 hS1 hl
      | some v => exact hk _ _ _ _ _ hN H1 locs1 ls hP1 hS1 hl
  · exact h.elim
end SBh

