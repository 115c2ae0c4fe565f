section Hps
variable {own : String} {cc : ByteArray} {nL d U : Nat} {ret : Option FieldType} {pc nx : Nat}
theorem ok_getfield {C : String} {T : u_T} {n ci f idx : Nat} (hc : vwCl[ci]? = some (C, T, n)) (hin : ∀ w ∈ u_ws C T n, w ∈ TB) (hf : f < n) (hw : Cond.fieldLink own idx (T f).1 (T f).2.1 (T f).2.2.1 ∈ TB)
    (hd : decode cc pc = .ok (.getfield idx, 3)) (hn : pc + 3 = nx) : Snd own cc nL d U ret pc (op_gf ci f nx) := by
  intro g p l e R s m args below meth c w0 hC ad K N X Q hQ k hk u L st s0 h
  subst hn
  intro H locs ls hP hS hl
  unfold op_gf at h
  split at h
  · rename_i t i st'
    cases ho : isO ci t with
    | false => rw [ho] at h; exact h.elim
    | true =>
      rw [ho, cond_true] at h
      obtain ⟨hL, h⟩ := h
      obtain ⟨N', hob⟩ := isO_ob ho
      obtain ⟨q, hq1, hq2⟩ := ob_N hob
      have hN : N' = n := by rw [hq1] at hc; cases hc; exact hq2.symm
      subst hN
      obtain ⟨q0, ha, hK0⟩ := gws_at (g := g) (ad := ad) (s := s0) (hP.2.2.1 t i hL)
      rw [ent_ob hob] at ha
      refine va_get (D := g.1) (ci := ci) (v := cL ad (gf s0 t i f)) (Ts := w0 :: TB) hC.1.1 hC.1.2.1 hC.1.2.2.2.2 (fun w hw => List.mem_cons_of_mem _ (hin w hw)) hC.1.2.2.2.1 hC.2.1.1 hP.1 q0 ha hc f hf (hC.1.2.2.2.2 _ (List.mem_cons_of_mem _ hw)) (fun _ q => q) (rng_at _ hf) hd ?_
      unfold gf
      split at h
      · rename_i t' hr; rw [hr]; exact hk _ _ _ _ _ h H locs ls hP hS hl
      · rename_i t' c' hr; rw [hr]; exact hk _ _ _ _ _ h H locs ls hP hS hl
      · rename_i hr
        rw [hr]
        cases hb : Nat.beq t 2 && Nat.beq f 2 with
        | true => rw [hb, cond_true] at h; simp only [cond_true]; exact hk _ _ _ _ _ h H locs ls hP hS hl
        | false => rw [hb, cond_false] at h; simp only [cond_false]; exact hk _ _ _ _ _ h H locs ls hP hS hl
  · exact h.elim
theorem gf_put {s0 : Sg} {t i f : Nat} {v : Int32} (hr : rf t f = none) (hb : (Nat.beq t 2 && Nat.beq f 2) = false) : gf (stS s0 t i f v) t i f = .inl v := by
  unfold gf
  rw [hr, hb]
  show Sum.inl (if t = t ∧ i = i ∧ f = f then v else _) = _
  rw [if_pos ⟨rfl, rfl, rfl⟩]
theorem gf_oth {s0 : Sg} {t i f j : Nat} {v : Int32} (hj : j ≠ f) : gf (stS s0 t i f v) t i j = gf s0 t i j := by
  unfold gf
  have e : (stS s0 t i f v).2.1 t i j = s0.2.1 t i j := if_neg (fun q => hj q.2.2)
  rw [e]
  rfl
theorem ok_putfield {C : String} {T : u_T} {n ci f idx : Nat} (ty0 : Nat → FieldType) (ty : FieldType) (hc : vwCl[ci]? = some (C, T, n)) (hin : ∀ w ∈ u_ws C T n, w ∈ TB) (hty : ∀ k, k < n → parseFieldDescriptor (T k).2.2.1 = some (ty0 k)) (hnm : ∀ a, a < n → ∀ b, b < n → a ≠ b → (T a).2.1 ≠ (T b).2.1)
    (hf : f < n) (hfin : (T f).2.2.2 = false) (hw : Cond.fieldLink own idx (T f).1 (T f).2.1 (T f).2.2.1 ∈ TB) (hp : parseFieldDescriptor (T f).2.2.1 = some ty) (hz : ty = .int ∨ (ty = .boolean ∧ ∀ t, isO ci t = true → zf t f = true))
    (hd : decode cc pc = .ok (.putfield idx, 3)) (hn : pc + 3 = nx) : Snd own cc nL d U ret pc (op_pf ci f nx) := by
  intro g p l e R s m args below meth c w0 hC ad K N X Q hQ k hk u L st s0 h
  subst hn
  intro H locs ls hP hS hl
  unfold op_pf at h
  split at h
  · rename_i v t i st'
    cases ho : isO ci t with
    | false => rw [ho] at h; exact h.elim
    | true =>
      rw [ho, cond_true] at h
      split at h
      · rename_i hr
        cases hb : Nat.beq t 2 && Nat.beq f 2 with
        | true => rw [hb, cond_true] at h; exact h.elim
        | false =>
          rw [hb, cond_false] at h
          obtain ⟨hL, h⟩ := h
          have h2 : (zf t f = true → (v = 0 ∨ v = 1)) ∧ k (pc + 3) u L st' (stS s0 t i f v) := by
            cases hzf : zf t f with
            | true => rw [hzf, cond_true] at h; exact ⟨fun _ => h.1, h.2⟩
            | false => rw [hzf, cond_false] at h; exact ⟨(fun q => nomatch q), h⟩
          obtain ⟨N', hob⟩ := isO_ob ho
          obtain ⟨q, hq1, hq2⟩ := ob_N hob
          have hN : N' = n := by rw [hq1] at hc; cases hc; exact hq2.symm
          subst hN
          obtain ⟨q0, ha, hK0⟩ := gws_at (g := g) (ad := ad) (s := s0) (hP.2.2.1 t i hL)
          rw [ent_ob hob] at ha
          have hnar : narrow ty (.int v) = .int v ∧ fits ty (.int v) = true := by
            rcases hz with rfl | ⟨rfl, hz⟩
            · exact ⟨rfl, rfl⟩
            · rcases h2.1 (hz t ho) with rfl | rfl <;> exact ⟨rfl, rfl⟩
          refine va_put (D := g.1) (ci := ci) (v := .int v) (ty := ty) (Ts := w0 :: TB) hC.1.1 hC.1.2.1 hC.1.2.2.2.2 (fun w hw => List.mem_cons_of_mem _ (hin w hw)) ty0 hty hnm hC.1.2.2.2.1 hC.2.1.1 hP.1 hP.2.1 hS q0 ha hc f hf (hC.1.2.2.2.2 _ (List.mem_cons_of_mem _ hw)) (fun _ q => q) hfin hp hnar.1 hnar.2 (by rw [List.length_map, List.length_range]; exact hf) hd (fun H1 locs1 hP1 hD1 hS1 => ?_)
          rw [rng_set (f' := fun k => cL ad (gf (stS s0 t i f v) t i k)) (by rw [gf_put hr hb]; rfl) (fun j hj => by rw [gf_oth hj])] at hP1 hD1
          have hz2 : g.2.2 ≤ H1.size := by
            have := (hP1 q0 _ (by rw [List.getElem?_set_self (List.getElem?_eq_some_iff.mp ha).1])).lt
            have h5 := hD1.2 q0 _ (by rw [List.getElem?_set_self (List.getElem?_eq_some_iff.mp ha).1])
            exact Nat.le_of_lt (Nat.lt_of_le_of_lt h5 this)
          refine hk _ _ _ _ _ h2.2 H1 locs1 ls ?_ hS1 hl
          have e := gws_set (g := g) (ad := ad) (s' := stS s0 t i f v) hP.2.1 hK0 (ent_ob hob) stS_ent
          rw [e] at hP1 hD1
          exact ⟨hP1, hD1, hP.2.2.1, hz2, hP.2.2.2.2⟩
      · exact h.elim
  · exact h.elim
theorem GP_st {g : GPm} {ad : Nat → Nat → Nat} {K : List (Nat × Nat)} {s0 : Sg} {t i j q0 : Nat} {v : Int32} {H H1 : Heap} {e : va_E} (hP : GP g ad K s0 H) (hK0 : K[q0]? = some (t, i)) (he : ent g ad (stS s0 t i j v) t i = e)
    (hP1 : va_P g.1 vwCl ((gws g ad K s0).set q0 (ad t i, e)) H1) (hD1 : va_D (gA g) ((gws g ad K s0).set q0 (ad t i, e))) : GP g ad K (stS s0 t i j v) H1 := by
  have hl : q0 < (gws g ad K s0).length := by unfold gws; rw [List.length_map]; exact (List.getElem?_eq_some_iff.mp hK0).1
  have hz2 : g.2.2 ≤ H1.size := by
    have := (hP1 q0 _ (by rw [List.getElem?_set_self hl])).lt
    have h5 := hD1.2 q0 _ (by rw [List.getElem?_set_self hl])
    exact Nat.le_of_lt (Nat.lt_of_le_of_lt h5 this)
  have e := gws_set (g := g) (ad := ad) (s' := stS s0 t i j v) hP.2.1 hK0 he stS_ent
  rw [e] at hP1 hD1
  exact ⟨hP1, hD1, hP.2.2.1, hz2, hP.2.2.2.2⟩
theorem upd_stS {s0 : Sg} {t i j : Nat} {v : Int32} : upd (s0.2.1 t i) j v = (stS s0 t i j v).2.1 t i := by
  funext q
  show (if q = j then v else s0.2.1 t i q) = (if t = t ∧ i = i ∧ q = j then v else s0.2.1 t i q)
  by_cases hq : q = j
  · rw [if_pos hq, if_pos ⟨rfl, rfl, hq⟩]
  · rw [if_neg hq, if_neg (fun z => hq z.2.2)]
theorem nar_z {v : Int32} (h : v = 0 ∨ v = 1) : vp_nar .boolean v = v := by rcases h with rfl | rfl <;> rfl
theorem ok_iaload (hd : decode cc pc = .ok (.iaload, 1)) (hn : pc + 1 = nx) : Snd own cc nL d U ret pc (op_iald nx) := by
  intro g p l e R s m args below meth c w0 hC ad K N X Q hQ k hk u L st s0 h
  subst hn
  intro H locs ls hP hS hl
  unfold op_iald at h
  split at h
  · rename_i j t i st'
    split at h
    · rename_i n ho hr
      obtain ⟨hL, hin, h⟩ := h
      have hin := of_eq_true hin
      obtain ⟨q0, ha, hK0⟩ := gws_at (g := g) (ad := ad) (s := s0) (hP.2.2.1 t i hL)
      rw [ent_0 ho hr] at ha
      exact va_iald (D := g.1) hC.1.1 hC.1.2.1 hC.2.1.1 hP.1 q0 0 ha rfl hin hd (hk _ _ _ _ _ h H locs ls hP hS hl)
    · exact h.elim
  · exact h.elim
theorem ok_baload (hd : decode cc pc = .ok (.baload, 1)) (hn : pc + 1 = nx) : Snd own cc nL d U ret pc (op_bald nx) := by
  intro g p l e R s m args below meth c w0 hC ad K N X Q hQ k hk u L st s0 h
  subst hn
  intro H locs ls hP hS hl
  unfold op_bald at h
  split at h
  · rename_i j t i st'
    split at h
    · rename_i n ho hr
      obtain ⟨hL, hin, h⟩ := h
      have hin := of_eq_true hin
      obtain ⟨q0, ha, hK0⟩ := gws_at (g := g) (ad := ad) (s := s0) (hP.2.2.1 t i hL)
      rw [ent_1 ho hr] at ha
      exact va_zald (D := g.1) hC.1.1 hC.1.2.1 hC.2.1.1 hP.1 q0 1 ha rfl hin hd (hk _ _ _ _ _ h H locs ls hP hS hl)
    · exact h.elim
  · exact h.elim
theorem ok_iastore (hd : decode cc pc = .ok (.iastore, 1)) (hn : pc + 1 = nx) : Snd own cc nL d U ret pc (op_iast nx) := by
  intro g p l e R s m args below meth c w0 hC ad K N X Q hQ k hk u L st s0 h
  subst hn
  intro H locs ls hP hS hl
  unfold op_iast at h
  split at h
  · rename_i v j t i st'
    split at h
    · rename_i n ho hr
      obtain ⟨hL, hin, h⟩ := h
      have hin := of_eq_true hin
      obtain ⟨q0, ha, hK0⟩ := gws_at (g := g) (ad := ad) (s := s0) (hP.2.2.1 t i hL)
      rw [ent_0 ho hr] at ha
      refine va_iast (D := g.1) hC.1.1 hC.1.2.1 hC.2.1.1 hP.1 hP.2.1 hS q0 0 ha rfl hin hd (fun H1 locs1 hP1 hD1 hS1 => ?_)
      rw [upd_stS] at hP1 hD1
      exact hk _ _ _ _ _ h H1 locs1 ls (GP_st hP hK0 (ent_0 ho hr) hP1 hD1) hS1 hl
    · exact h.elim
  · exact h.elim
theorem ok_bastore (hd : decode cc pc = .ok (.bastore, 1)) (hn : pc + 1 = nx) : Snd own cc nL d U ret pc (op_bast nx) := by
  intro g p l e R s m args below meth c w0 hC ad K N X Q hQ k hk u L st s0 h
  subst hn
  intro H locs ls hP hS hl
  unfold op_bast at h
  split at h
  · rename_i v j t i st'
    split at h
    · rename_i n ho hr
      obtain ⟨hL, hin, hv, h⟩ := h
      have hin := of_eq_true hin
      obtain ⟨q0, ha, hK0⟩ := gws_at (g := g) (ad := ad) (s := s0) (hP.2.2.1 t i hL)
      rw [ent_1 ho hr] at ha
      refine va_zast (D := g.1) hC.1.1 hC.1.2.1 hC.2.1.1 hP.1 hP.2.1 hS q0 1 ha rfl hin hd (fun H1 locs1 hP1 hD1 hS1 => ?_)
      rw [nar_z hv, upd_stS] at hP1 hD1
      exact hk _ _ _ _ _ h H1 locs1 ls (GP_st hP hK0 (ent_1 ho hr) hP1 hD1) hS1 hl
    · exact h.elim
  · exact h.elim
theorem ok_aaload (hd : decode cc pc = .ok (.aaload, 1)) (hn : pc + 1 = nx) : Snd own cc nL d U ret pc (op_aald nx) := by
  intro g p l e R s m args below meth c w0 hC ad K N X Q hQ k hk u L st s0 h
  subst hn
  intro H locs ls hP hS hl
  unfold op_aald at h
  split at h
  · rename_i j t i st'
    split at h
    · rename_i n ho hr
      obtain ⟨hL, hin, hlt, h⟩ := h
      have hin := of_eq_true hin
      obtain ⟨q0, ha, hK0⟩ := gws_at (g := g) (ad := ad) (s := s0) (hP.2.2.1 t i hL)
      rw [ent_2 ho hr] at ha
      obtain rfl := ar_2 hr
      refine va_aldq (D := g.1) (C := "java/lang/Object") hC.1.1 hC.1.2.1 hC.2.1.1 hP.1 q0 2 ha rfl hin hd ?_
      have e1 : er s0 3 i j.toNatClampNeg = some (12 + i, j.toNatClampNeg) := by unfold er; rw [if_pos rfl, if_pos hlt]
      rw [e1]
      exact hk _ _ _ _ _ h H locs ls hP hS hl
    · rename_i n ho hr
      obtain ⟨hL, hin, h⟩ := h
      have hin := of_eq_true hin
      obtain ⟨q0, ha, hK0⟩ := gws_at (g := g) (ad := ad) (s := s0) (hP.2.2.1 t i hL)
      rw [ent_3 ho hr] at ha
      have hlt : j.toNatClampNeg < n := Nat.not_le.mp fun q => hin (Or.inr q)
      have e1 : (er s0 t i j.toNatClampNeg).map (fun r => ad r.1 r.2) = some (ad (t + 1) j.toNatClampNeg) := by unfold er; rw [if_neg (ar_3 hr)]; rfl
      refine W.aald (v := .ref (ad (t + 1) j.toNatClampNeg)) (ty := .array .int) hC.1.1 hC.1.2.1 (hP.1 q0 _ ha) ((hC.2.1.1.2 3 _ rfl).1 n (fun j => va_rf ((er s0 t i j).map (fun r => ad r.1 r.2)))) rfl (fun q => by cases q) (by show ¬ (j < 0 ∨ (arrV _ _ _).slots.size ≤ _); rw [arrV_size]; exact hin) (by show (arrV _ _ _).slots[_]? = _; rw [arrV_read _ _ hlt]; show some (va_rf ((er s0 t i j.toNatClampNeg).map (fun r => ad r.1 r.2))) = _; rw [e1]; rfl) rfl rfl hd ?_
      exact hk _ _ _ _ _ h H locs ls hP hS hl
    · exact h.elim
  · exact h.elim
end Hps
