/-! ===== each instruction's meaning is sound ===== -/
theorem getL_mem : ∀ {L : LC} {i : Nat} {v : LV}, getL L i = some v → (i, v) ∈ L
  | [], _, _, h => nomatch h
  | (j, w) :: r, i, v, h => by
    unfold getL at h
    cases hq : Nat.beq j i with
    | true =>
      rw [hq, cond_true] at h
      cases h
      rw [Nat.eq_of_beq_eq_true hq]
      exact List.mem_cons_self
    | false =>
      rw [hq, cond_false] at h
      exact List.mem_cons_of_mem _ (getL_mem h)
theorem getL_at {ad : Nat → Nat → Nat} {ls : Array Slot} {nL : Nat} {L : LC} {i : Nat} {v : LV} (hl : lv_has ls nL (L.map (fun q => (q.1, cL ad q.2)))) (h : getL L i = some v) : ls[i]? = some (.val (cL ad v)) :=
  hl.2.2 (i, cL ad v) (List.mem_map.mpr ⟨(i, v), getL_mem h, rfl⟩)
theorem setB_ok : ∀ {L : LC} {i : Nat} {v : LV} {b : Bool} {k : LC → Prop}, setB L i v b k → ∃ L', k L' ∧ ∀ q ∈ L', q = (i, v) ∨ (q ∈ L ∧ q.1 ≠ i)
  | [], i, v, true, k, h => ⟨[], h, fun q hq => nomatch hq⟩
  | [], i, v, false, k, h => ⟨[(i, v)], h, fun q hq => Or.inl (List.mem_singleton.mp hq)⟩
  | (j, w) :: r, i, v, b, k, h => by
    unfold setB at h
    cases hq : Nat.beq j i with
    | true =>
      rw [hq, cond_true] at h
      obtain ⟨L', h1, h2⟩ := setB_ok h
      refine ⟨_, h1, fun q hm => ?_⟩
      rcases List.mem_cons.mp hm with e | e
      · exact Or.inl e
      · exact (h2 q e).imp id (fun z => ⟨List.mem_cons_of_mem _ z.1, z.2⟩)
    | false =>
      rw [hq, cond_false] at h
      obtain ⟨L', h1, h2⟩ := setB_ok h
      refine ⟨_, h1, fun q hm => ?_⟩
      rcases List.mem_cons.mp hm with e | e
      · exact Or.inr ⟨by rw [e]; exact List.mem_cons_self, by rw [e]; exact Nat.ne_of_beq_eq_false hq⟩
      · exact (h2 q e).imp id (fun z => ⟨List.mem_cons_of_mem _ z.1, z.2⟩)
/-- the locals behind a store -/
theorem setK_ok {ad : Nat → Nat → Nat} {L : LC} {i : Nat} {v : LV} {k : LC → Prop} (h : setK L i v k) : ∃ L', k L' ∧ ∀ (nL : Nat) (ls : Array Slot),
    lv_has ls nL ((i, cL ad v) :: (L.map (fun q => (q.1, cL ad q.2))).filter (fun q => !(q.1 == i) && !(q.1 + 1 == i && q.2.category == 2))) → lv_has ls nL (L'.map (fun q => (q.1, cL ad q.2))) := by
  obtain ⟨L', h1, h2⟩ := setB_ok h
  refine ⟨L', h1, fun nL ls hl => ⟨hl.1, hl.2.1, fun q hq => ?_⟩⟩
  obtain ⟨z, hz, rfl⟩ := List.mem_map.mp hq
  rcases h2 z hz with rfl | ⟨h3, h4⟩
  · exact hl.2.2 _ List.mem_cons_self
  · refine hl.2.2 _ (List.mem_cons_of_mem _ (List.mem_filter.mpr ⟨List.mem_map.mpr ⟨z, h3, rfl⟩, ?_⟩))
    show (!(z.1 == i) && !(z.1 + 1 == i && (cL ad z.2).category == 2)) = true
    rw [cL_cat]
    simp [h4]
theorem ob_N : ∀ {t c n : Nat}, ob t = some (c, n) → ∃ q, vwCl[c]? = some q ∧ q.2.2 = n := by
  intro t c n h
  unfold ob at h
  split at h <;> cases h <;> exact ⟨_, rfl, rfl⟩
theorem isO_ob {ci t : Nat} (h : isO ci t = true) : ∃ n, ob t = some (ci, n) := by
  unfold isO at h
  cases ho : ob t with
  | none => rw [ho] at h; cases h
  | some q =>
    obtain ⟨c, n⟩ := q
    rw [ho] at h
    exact ⟨n, by rw [Nat.eq_of_beq_eq_true h]⟩
theorem ent_ob {g : GPm} {ad : Nat → Nat → Nat} {s : Sg} {t i c n : Nat} (h : ob t = some (c, n)) : ent g ad s t i = .inr (c, (List.range n).map (fun k => cL ad (gf s t i k))) := by
  unfold ent; rw [h]
theorem ent_0 {g : GPm} {ad : Nat → Nat → Nat} {s : Sg} {t i n : Nat} (h : ob t = none) (h2 : ar t = some (0, n)) : ent g ad s t i = .inl (g.2.1 0, n, .inl (s.2.1 t i)) := by
  unfold ent; rw [h, h2]; rfl
theorem ent_1 {g : GPm} {ad : Nat → Nat → Nat} {s : Sg} {t i n : Nat} (h : ob t = none) (h2 : ar t = some (1, n)) : ent g ad s t i = .inl (g.2.1 1, n, .inl (s.2.1 t i)) := by
  unfold ent; rw [h, h2]; rfl
theorem ent_2 {g : GPm} {ad : Nat → Nat → Nat} {s : Sg} {t i n : Nat} (h : ob t = none) (h2 : ar t = some (2, n)) : ent g ad s t i = .inl (g.2.1 2, s.1 (3 + i), .inr (.inr (.inr (.inr (fun j => (er s t i j).map (fun r => ad r.1 r.2)))))) := by
  unfold ent; rw [h, h2]; rfl
theorem ent_3 {g : GPm} {ad : Nat → Nat → Nat} {s : Sg} {t i n : Nat} (h : ob t = none) (h2 : ar t = some (3, n)) : ent g ad s t i = .inl (g.2.1 3, n, .inr (.inr (.inr (.inr (fun j => (er s t i j).map (fun r => ad r.1 r.2)))))) := by
  unfold ent; rw [h, h2]; rfl
theorem ar_2 {t n : Nat} (h : ar t = some (2, n)) : t = 3 := by
  unfold ar at h
  split at h <;> first | rfl | (simp at h)
theorem ar_3 {t n : Nat} (h : ar t = some (3, n)) : t ≠ 3 := by
  rintro rfl
  simp [ar] at h
theorem GS_moved {g : GPm} {s U : State} {locs : List Loc} (h : GS g s) (hW : s.WarmedH U.vm) (hS : va_S (gA g) s.heap U.heap locs) : GS g U :=
  ⟨va_K.moved hW.alike h.1, (vx_Zq.moved hW.alike h.2.1).kept (fun a h1 h2 => hS.2.1 a h1 h2), (vx_Zq.moved hW.alike h.2.2.1).kept (fun a h1 h2 => hS.2.1 a h1 h2), GX_moved h.2.2.2 hW hS⟩
theorem GP_blind {g : GPm} {ad : Nat → Nat → Nat} {K : List (Nat × Nat)} {s0 : Sg} {av : List Value} : FrameBlind (va_Pc av (fun U => GS g U ∧ GP g ad K s0 U.heap)) := by
  intro a U gg mk h
  obtain ⟨h1, h2, h3⟩ := h
  exact ⟨h1, ⟨va_K.moved (u := U) (U := U.calling gg mk a) (Vm.Alike.refl U.vm) h2.1, vx_Zq.moved (u := U) (U := U.calling gg mk a) (Vm.Alike.refl U.vm) h2.2.1, vx_Zq.moved (u := U) (U := U.calling gg mk a) (Vm.Alike.refl U.vm) h2.2.2.1, GX_blind h2.2.2.2⟩, h3⟩
section Snds
variable {own : String} {cc : ByteArray} {nL d U : Nat} {ret : Option FieldType} {pc nx : Nat}
theorem ok_iconst {n : Int} {v : Int32} (hd : decode cc pc = .ok (.iconst n, 1)) (hv : Int32.ofInt n = v) (hn : pc + 1 = nx) : Snd own cc nL d U ret pc (op_ic v nx) := by
  intro g p l e R s m args below meth c w0 hC ad K N X Q hQ k hk u L st s0 h
  subst hn
  intro H locs ls hP hS hl
  exact lv_iconst hC.1.1 hC.1.2.1 hd hv (hk _ _ _ _ _ h H locs ls hP hS hl)
theorem ok_bipush {n : Int} {v : Int32} (hd : decode cc pc = .ok (.bipush n, 2)) (hv : (Int8.ofInt n).toInt32 = v) (hn : pc + 2 = nx) : Snd own cc nL d U ret pc (op_ic v nx) := by
  intro g p l e R s m args below meth c w0 hC ad K N X Q hQ k hk u L st s0 h
  subst hn
  intro H locs ls hP hS hl
  exact lv_bipush hC.1.1 hC.1.2.1 hd hv (hk _ _ _ _ _ h H locs ls hP hS hl)
theorem ok_sipush {n : Int} {v : Int32} (hd : decode cc pc = .ok (.sipush n, 3)) (hv : (Int16.ofInt n).toInt32 = v) (hn : pc + 3 = nx) : Snd own cc nL d U ret pc (op_ic v nx) := by
  intro g p l e R s m args below meth c w0 hC ad K N X Q hQ k hk u L st s0 h
  subst hn
  intro H locs ls hP hS hl
  exact lv_sipush hC.1.1 hC.1.2.1 hd hv (hk _ _ _ _ _ h H locs ls hP hS hl)
theorem ok_ldc {n : Nat} {v : Int32} (hw : Cond.constant own n v ∈ TB) (hd : decode cc pc = .ok (.ldc n, 2)) (hn : pc + 2 = nx) : Snd own cc nL d U ret pc (op_ic v nx) := by
  intro g p l e R s m args below meth c w0 hC ad K N X Q hQ k hk u L st s0 h
  subst hn
  intro H locs ls hP hS hl
  exact lv_ldc hC.1.1 hC.1.2.1 hC.1.2.2.2.1 (hC.1.2.2.2.2 _ (List.mem_cons_of_mem _ hw)) hd (hk _ _ _ _ _ h H locs ls hP hS hl)
theorem ok_iload {i : Nat} (hd : decode cc pc = .ok (.iload i, 2)) (hn : pc + 2 = nx) : Snd own cc nL d U ret pc (op_il i nx) := by
  intro g p l e R s m args below meth c w0 hC ad K N X Q hQ k hk u L st s0 h
  subst hn
  intro H locs ls hP hS hl
  unfold op_il at h
  split at h
  · rename_i x hx
    exact lv_iload hC.1.1 hC.1.2.1 hd (getL_at hl hx) (hk _ _ _ _ _ h H locs ls hP hS hl)
  · exact h.elim
theorem ok_iload_n {q : Fin 4} {i : Nat} (hd : decode cc pc = .ok (.iload_n q, 1)) (hi : (q : Nat) = i) (hn : pc + 1 = nx) : Snd own cc nL d U ret pc (op_il i nx) := by
  intro g p l e R s m args below meth c w0 hC ad K N X Q hQ k hk u L st s0 h
  subst hn
  intro H locs ls hP hS hl
  unfold op_il at h
  split at h
  · rename_i x hx
    exact lv_iload_n hC.1.1 hC.1.2.1 hd hi (getL_at hl hx) (hk _ _ _ _ _ h H locs ls hP hS hl)
  · exact h.elim
theorem ok_aload {i : Nat} (hd : decode cc pc = .ok (.aload i, 2)) (hn : pc + 2 = nx) : Snd own cc nL d U ret pc (op_al i nx) := by
  intro g p l e R s m args below meth c w0 hC ad K N X Q hQ k hk u L st s0 h
  subst hn
  intro H locs ls hP hS hl
  unfold op_al at h
  split at h
  · rename_i x hx
    exact lv_aload hC.1.1 hC.1.2.1 hd (getL_at hl hx) (hk _ _ _ _ _ h H locs ls hP hS hl)
  · exact h.elim
theorem ok_aload_n {q : Fin 4} {i : Nat} (hd : decode cc pc = .ok (.aload_n q, 1)) (hi : (q : Nat) = i) (hn : pc + 1 = nx) : Snd own cc nL d U ret pc (op_al i nx) := by
  intro g p l e R s m args below meth c w0 hC ad K N X Q hQ k hk u L st s0 h
  subst hn
  intro H locs ls hP hS hl
  unfold op_al at h
  split at h
  · rename_i x hx
    exact lv_aload_n hC.1.1 hC.1.2.1 hd hi (getL_at hl hx) (hk _ _ _ _ _ h H locs ls hP hS hl)
  · exact h.elim
theorem ok_istore {i : Nat} (hd : decode cc pc = .ok (.istore i, 2)) (hi : i < nL) (hn : pc + 2 = nx) : Snd own cc nL d U ret pc (op_is i nx) := by
  intro g p l e R s m args below meth c w0 hC ad K N X Q hQ k hk u L st s0 h
  subst hn
  intro H locs ls hP hS hl
  unfold op_is at h
  split at h
  · rename_i x st'
    obtain ⟨L', h1, h2⟩ := setK_ok (ad := ad) h
    exact lv_istore hC.1.1 hC.1.2.1 hd hl hi rfl (fun ls' hl' => hk _ _ _ _ _ h1 H locs ls' hP hS (h2 nL ls' hl'))
  · exact h.elim
theorem ok_istore_n {q : Fin 4} {i : Nat} (hd : decode cc pc = .ok (.istore_n q, 1)) (he : (q : Nat) = i) (hi : i < nL) (hn : pc + 1 = nx) : Snd own cc nL d U ret pc (op_is i nx) := by
  intro g p l e R s m args below meth c w0 hC ad K N X Q hQ k hk u L st s0 h
  subst hn
  intro H locs ls hP hS hl
  unfold op_is at h
  split at h
  · rename_i x st'
    obtain ⟨L', h1, h2⟩ := setK_ok (ad := ad) h
    exact lv_istore_n hC.1.1 hC.1.2.1 hd he hl hi rfl (fun ls' hl' => hk _ _ _ _ _ h1 H locs ls' hP hS (h2 nL ls' hl'))
  · exact h.elim
theorem ok_astore {i : Nat} (hd : decode cc pc = .ok (.astore i, 2)) (hi : i < nL) (hn : pc + 2 = nx) : Snd own cc nL d U ret pc (op_as i nx) := by
  intro g p l e R s m args below meth c w0 hC ad K N X Q hQ k hk u L st s0 h
  subst hn
  intro H locs ls hP hS hl
  unfold op_as at h
  split at h
  · rename_i x st'
    obtain ⟨L', h1, h2⟩ := setK_ok (ad := ad) h
    exact lv_astore hC.1.1 hC.1.2.1 hd hl hi rfl (fun ls' hl' => hk _ _ _ _ _ h1 H locs ls' hP hS (h2 nL ls' hl'))
  · exact h.elim
theorem ok_astore_n {q : Fin 4} {i : Nat} (hd : decode cc pc = .ok (.astore_n q, 1)) (he : (q : Nat) = i) (hi : i < nL) (hn : pc + 1 = nx) : Snd own cc nL d U ret pc (op_as i nx) := by
  intro g p l e R s m args below meth c w0 hC ad K N X Q hQ k hk u L st s0 h
  subst hn
  intro H locs ls hP hS hl
  unfold op_as at h
  split at h
  · rename_i x st'
    obtain ⟨L', h1, h2⟩ := setK_ok (ad := ad) h
    exact lv_astore_n hC.1.1 hC.1.2.1 hd he hl hi rfl (fun ls' hl' => hk _ _ _ _ _ h1 H locs ls' hP hS (h2 nL ls' hl'))
  · exact h.elim
theorem ok_iinc {i : Nat} {n : Int} {v : Int32} (hd : decode cc pc = .ok (.iinc i n, 3)) (hv : Int32.ofInt n = v) (hi : i < nL) (hn : pc + 3 = nx) : Snd own cc nL d U ret pc (op_inc i v nx) := by
  intro g p l e R s m args below meth c w0 hC ad K N X Q hQ k hk u L st s0 h
  subst hn
  intro H locs ls hP hS hl
  unfold op_inc at h
  split at h
  · rename_i x hx
    obtain ⟨L', h1, h2⟩ := setK_ok (ad := ad) h
    obtain ⟨kk, hkk⟩ := List.getElem?_of_mem (List.mem_map.mpr ⟨(i, .inl x), getL_mem hx, rfl⟩ : (i, Value.int x) ∈ L.map (fun q => (q.1, cL ad q.2)))
    exact lv_iinc hC.1.1 hC.1.2.1 hd hl hkk (by rw [hv]) hi rfl (fun ls' hl' => hk _ _ _ _ _ h1 H locs ls' hP hS (h2 nL ls' hl'))
  · exact h.elim
theorem ok_iadd (hd : decode cc pc = .ok (.iadd, 1)) (hn : pc + 1 = nx) : Snd own cc nL d U ret pc (op_bin (fun x y => x + y) nx) := by
  intro g p l e R s m args below meth c w0 hC ad K N X Q hQ k hk u L st s0 h
  subst hn
  intro H locs ls hP hS hl
  unfold op_bin at h
  split at h
  · exact lv_iadd hC.1.1 hC.1.2.1 hd (hk _ _ _ _ _ h H locs ls hP hS hl)
  · exact h.elim
theorem ok_isub (hd : decode cc pc = .ok (.isub, 1)) (hn : pc + 1 = nx) : Snd own cc nL d U ret pc (op_bin (fun x y => x - y) nx) := by
  intro g p l e R s m args below meth c w0 hC ad K N X Q hQ k hk u L st s0 h
  subst hn
  intro H locs ls hP hS hl
  unfold op_bin at h
  split at h
  · exact lv_isub hC.1.1 hC.1.2.1 hd (hk _ _ _ _ _ h H locs ls hP hS hl)
  · exact h.elim
theorem ok_imul (hd : decode cc pc = .ok (.imul, 1)) (hn : pc + 1 = nx) : Snd own cc nL d U ret pc (op_bin (fun x y => x * y) nx) := by
  intro g p l e R s m args below meth c w0 hC ad K N X Q hQ k hk u L st s0 h
  subst hn
  intro H locs ls hP hS hl
  unfold op_bin at h
  split at h
  · exact lv_imul hC.1.1 hC.1.2.1 hd (hk _ _ _ _ _ h H locs ls hP hS hl)
  · exact h.elim
theorem ok_iand (hd : decode cc pc = .ok (.iand, 1)) (hn : pc + 1 = nx) : Snd own cc nL d U ret pc (op_bin (fun x y => x &&& y) nx) := by
  intro g p l e R s m args below meth c w0 hC ad K N X Q hQ k hk u L st s0 h
  subst hn
  intro H locs ls hP hS hl
  unfold op_bin at h
  split at h
  · exact lv_iand hC.1.1 hC.1.2.1 hd (hk _ _ _ _ _ h H locs ls hP hS hl)
  · exact h.elim
theorem ok_ior (hd : decode cc pc = .ok (.ior, 1)) (hn : pc + 1 = nx) : Snd own cc nL d U ret pc (op_bin (fun x y => x ||| y) nx) := by
  intro g p l e R s m args below meth c w0 hC ad K N X Q hQ k hk u L st s0 h
  subst hn
  intro H locs ls hP hS hl
  unfold op_bin at h
  split at h
  · exact lv_ior hC.1.1 hC.1.2.1 hd (hk _ _ _ _ _ h H locs ls hP hS hl)
  · exact h.elim
theorem ok_ixor (hd : decode cc pc = .ok (.ixor, 1)) (hn : pc + 1 = nx) : Snd own cc nL d U ret pc (op_bin (fun x y => x ^^^ y) nx) := by
  intro g p l e R s m args below meth c w0 hC ad K N X Q hQ k hk u L st s0 h
  subst hn
  intro H locs ls hP hS hl
  unfold op_bin at h
  split at h
  · exact lv_ixor hC.1.1 hC.1.2.1 hd (hk _ _ _ _ _ h H locs ls hP hS hl)
  · exact h.elim
theorem ok_ishl (hd : decode cc pc = .ok (.ishl, 1)) (hn : pc + 1 = nx) : Snd own cc nL d U ret pc (op_bin (fun x y => x <<< (y &&& 31)) nx) := by
  intro g p l e R s m args below meth c w0 hC ad K N X Q hQ k hk u L st s0 h
  subst hn
  intro H locs ls hP hS hl
  unfold op_bin at h
  split at h
  · exact lv_ishl hC.1.1 hC.1.2.1 hd (hk _ _ _ _ _ h H locs ls hP hS hl)
  · exact h.elim
theorem ok_ishr (hd : decode cc pc = .ok (.ishr, 1)) (hn : pc + 1 = nx) : Snd own cc nL d U ret pc (op_bin (fun x y => x >>> (y &&& 31)) nx) := by
  intro g p l e R s m args below meth c w0 hC ad K N X Q hQ k hk u L st s0 h
  subst hn
  intro H locs ls hP hS hl
  unfold op_bin at h
  split at h
  · exact lv_ishr hC.1.1 hC.1.2.1 hd (hk _ _ _ _ _ h H locs ls hP hS hl)
  · exact h.elim
theorem ok_idiv (hd : decode cc pc = .ok (.idiv, 1)) (hn : pc + 1 = nx) : Snd own cc nL d U ret pc (op_dv (fun x y => x / y) nx) := by
  intro g p l e R s m args below meth c w0 hC ad K N X Q hQ k hk u L st s0 h
  subst hn
  intro H locs ls hP hS hl
  unfold op_dv at h
  split at h
  · exact lv_idiv hC.1.1 hC.1.2.1 hd h.1 (hk _ _ _ _ _ h.2 H locs ls hP hS hl)
  · exact h.elim
theorem ok_irem (hd : decode cc pc = .ok (.irem, 1)) (hn : pc + 1 = nx) : Snd own cc nL d U ret pc (op_dv (fun x y => x - x / y * y) nx) := by
  intro g p l e R s m args below meth c w0 hC ad K N X Q hQ k hk u L st s0 h
  subst hn
  intro H locs ls hP hS hl
  unfold op_dv at h
  split at h
  · exact lv_irem hC.1.1 hC.1.2.1 hd h.1 (hk _ _ _ _ _ h.2 H locs ls hP hS hl)
  · exact h.elim
theorem ok_if_eq {off : Int} {tg : Nat} (hd : decode cc pc = .ok (.ifCond .eq off, 3)) (ht : (pc : Int) + off = (tg : Int)) (hn : pc + 3 = nx) : Snd own cc nL d U ret pc (op_if (fun x => x = 0) tg nx) := by
  intro g p l e R s m args below meth c w0 hC ad K N X Q hQ k hk u L st s0 h
  subst hn
  intro H locs ls hP hS hl
  unfold op_if at h
  split at h
  · exact lv_if_eq hC.1.1 hC.1.2.1 hd ht (fun q => hk _ _ _ _ _ (h.1 q) H locs ls hP hS hl) (fun q => hk _ _ _ _ _ (h.2 (by first | exact q | simpa using q)) H locs ls hP hS hl)
  · exact h.elim
theorem ok_icmp_eq {off : Int} {tg : Nat} (hd : decode cc pc = .ok (.if_icmp .eq off, 3)) (ht : (pc : Int) + off = (tg : Int)) (hn : pc + 3 = nx) : Snd own cc nL d U ret pc (op_cmp (fun x y => x = y) tg nx) := by
  intro g p l e R s m args below meth c w0 hC ad K N X Q hQ k hk u L st s0 h
  subst hn
  intro H locs ls hP hS hl
  unfold op_cmp at h
  split at h
  · exact lv_icmp_eq hC.1.1 hC.1.2.1 hd ht (fun q => hk _ _ _ _ _ (h.1 q) H locs ls hP hS hl) (fun q => hk _ _ _ _ _ (h.2 (by first | exact q | simpa using q)) H locs ls hP hS hl)
  · exact h.elim
theorem ok_if_ne {off : Int} {tg : Nat} (hd : decode cc pc = .ok (.ifCond .ne off, 3)) (ht : (pc : Int) + off = (tg : Int)) (hn : pc + 3 = nx) : Snd own cc nL d U ret pc (op_if (fun x => ¬ x = 0) tg nx) := by
  intro g p l e R s m args below meth c w0 hC ad K N X Q hQ k hk u L st s0 h
  subst hn
  intro H locs ls hP hS hl
  unfold op_if at h
  split at h
  · exact lv_if_ne hC.1.1 hC.1.2.1 hd ht (fun q => hk _ _ _ _ _ (h.1 q) H locs ls hP hS hl) (fun q => hk _ _ _ _ _ (h.2 (by first | exact q | simpa using q)) H locs ls hP hS hl)
  · exact h.elim
theorem ok_icmp_ne {off : Int} {tg : Nat} (hd : decode cc pc = .ok (.if_icmp .ne off, 3)) (ht : (pc : Int) + off = (tg : Int)) (hn : pc + 3 = nx) : Snd own cc nL d U ret pc (op_cmp (fun x y => ¬ x = y) tg nx) := by
  intro g p l e R s m args below meth c w0 hC ad K N X Q hQ k hk u L st s0 h
  subst hn
  intro H locs ls hP hS hl
  unfold op_cmp at h
  split at h
  · exact lv_icmp_ne hC.1.1 hC.1.2.1 hd ht (fun q => hk _ _ _ _ _ (h.1 q) H locs ls hP hS hl) (fun q => hk _ _ _ _ _ (h.2 (by first | exact q | simpa using q)) H locs ls hP hS hl)
  · exact h.elim
theorem ok_if_lt {off : Int} {tg : Nat} (hd : decode cc pc = .ok (.ifCond .lt off, 3)) (ht : (pc : Int) + off = (tg : Int)) (hn : pc + 3 = nx) : Snd own cc nL d U ret pc (op_if (fun x => x < 0) tg nx) := by
  intro g p l e R s m args below meth c w0 hC ad K N X Q hQ k hk u L st s0 h
  subst hn
  intro H locs ls hP hS hl
  unfold op_if at h
  split at h
  · exact lv_if_lt hC.1.1 hC.1.2.1 hd ht (fun q => hk _ _ _ _ _ (h.1 q) H locs ls hP hS hl) (fun q => hk _ _ _ _ _ (h.2 (by first | exact q | simpa using q)) H locs ls hP hS hl)
  · exact h.elim
theorem ok_icmp_lt {off : Int} {tg : Nat} (hd : decode cc pc = .ok (.if_icmp .lt off, 3)) (ht : (pc : Int) + off = (tg : Int)) (hn : pc + 3 = nx) : Snd own cc nL d U ret pc (op_cmp (fun x y => x < y) tg nx) := by
  intro g p l e R s m args below meth c w0 hC ad K N X Q hQ k hk u L st s0 h
  subst hn
  intro H locs ls hP hS hl
  unfold op_cmp at h
  split at h
  · exact lv_icmp_lt hC.1.1 hC.1.2.1 hd ht (fun q => hk _ _ _ _ _ (h.1 q) H locs ls hP hS hl) (fun q => hk _ _ _ _ _ (h.2 (by first | exact q | simpa using q)) H locs ls hP hS hl)
  · exact h.elim
theorem ok_if_ge {off : Int} {tg : Nat} (hd : decode cc pc = .ok (.ifCond .ge off, 3)) (ht : (pc : Int) + off = (tg : Int)) (hn : pc + 3 = nx) : Snd own cc nL d U ret pc (op_if (fun x => 0 ≤ x) tg nx) := by
  intro g p l e R s m args below meth c w0 hC ad K N X Q hQ k hk u L st s0 h
  subst hn
  intro H locs ls hP hS hl
  unfold op_if at h
  split at h
  · exact lv_if_ge hC.1.1 hC.1.2.1 hd ht (fun q => hk _ _ _ _ _ (h.1 q) H locs ls hP hS hl) (fun q => hk _ _ _ _ _ (h.2 (by first | exact q | simpa using q)) H locs ls hP hS hl)
  · exact h.elim
theorem ok_icmp_ge {off : Int} {tg : Nat} (hd : decode cc pc = .ok (.if_icmp .ge off, 3)) (ht : (pc : Int) + off = (tg : Int)) (hn : pc + 3 = nx) : Snd own cc nL d U ret pc (op_cmp (fun x y => y ≤ x) tg nx) := by
  intro g p l e R s m args below meth c w0 hC ad K N X Q hQ k hk u L st s0 h
  subst hn
  intro H locs ls hP hS hl
  unfold op_cmp at h
  split at h
  · exact lv_icmp_ge hC.1.1 hC.1.2.1 hd ht (fun q => hk _ _ _ _ _ (h.1 q) H locs ls hP hS hl) (fun q => hk _ _ _ _ _ (h.2 (by first | exact q | simpa using q)) H locs ls hP hS hl)
  · exact h.elim
theorem ok_if_gt {off : Int} {tg : Nat} (hd : decode cc pc = .ok (.ifCond .gt off, 3)) (ht : (pc : Int) + off = (tg : Int)) (hn : pc + 3 = nx) : Snd own cc nL d U ret pc (op_if (fun x => 0 < x) tg nx) := by
  intro g p l e R s m args below meth c w0 hC ad K N X Q hQ k hk u L st s0 h
  subst hn
  intro H locs ls hP hS hl
  unfold op_if at h
  split at h
  · exact lv_if_gt hC.1.1 hC.1.2.1 hd ht (fun q => hk _ _ _ _ _ (h.1 q) H locs ls hP hS hl) (fun q => hk _ _ _ _ _ (h.2 (by first | exact q | simpa using q)) H locs ls hP hS hl)
  · exact h.elim
theorem ok_icmp_gt {off : Int} {tg : Nat} (hd : decode cc pc = .ok (.if_icmp .gt off, 3)) (ht : (pc : Int) + off = (tg : Int)) (hn : pc + 3 = nx) : Snd own cc nL d U ret pc (op_cmp (fun x y => y < x) tg nx) := by
  intro g p l e R s m args below meth c w0 hC ad K N X Q hQ k hk u L st s0 h
  subst hn
  intro H locs ls hP hS hl
  unfold op_cmp at h
  split at h
  · exact lv_icmp_gt hC.1.1 hC.1.2.1 hd ht (fun q => hk _ _ _ _ _ (h.1 q) H locs ls hP hS hl) (fun q => hk _ _ _ _ _ (h.2 (by first | exact q | simpa using q)) H locs ls hP hS hl)
  · exact h.elim
theorem ok_if_le {off : Int} {tg : Nat} (hd : decode cc pc = .ok (.ifCond .le off, 3)) (ht : (pc : Int) + off = (tg : Int)) (hn : pc + 3 = nx) : Snd own cc nL d U ret pc (op_if (fun x => x ≤ 0) tg nx) := by
  intro g p l e R s m args below meth c w0 hC ad K N X Q hQ k hk u L st s0 h
  subst hn
  intro H locs ls hP hS hl
  unfold op_if at h
  split at h
  · exact lv_if_le hC.1.1 hC.1.2.1 hd ht (fun q => hk _ _ _ _ _ (h.1 q) H locs ls hP hS hl) (fun q => hk _ _ _ _ _ (h.2 (by first | exact q | simpa using q)) H locs ls hP hS hl)
  · exact h.elim
theorem ok_icmp_le {off : Int} {tg : Nat} (hd : decode cc pc = .ok (.if_icmp .le off, 3)) (ht : (pc : Int) + off = (tg : Int)) (hn : pc + 3 = nx) : Snd own cc nL d U ret pc (op_cmp (fun x y => x ≤ y) tg nx) := by
  intro g p l e R s m args below meth c w0 hC ad K N X Q hQ k hk u L st s0 h
  subst hn
  intro H locs ls hP hS hl
  unfold op_cmp at h
  split at h
  · exact lv_icmp_le hC.1.1 hC.1.2.1 hd ht (fun q => hk _ _ _ _ _ (h.1 q) H locs ls hP hS hl) (fun q => hk _ _ _ _ _ (h.2 (by first | exact q | simpa using q)) H locs ls hP hS hl)
  · exact h.elim
theorem ok_goto {off : Int} {tg : Nat} (hd : decode cc pc = .ok (.goto off, 3)) (ht : (pc : Int) + off = (tg : Int)) : Snd own cc nL d U ret pc (op_go tg) := by
  intro g p l e R s m args below meth c w0 hC ad K N X Q hQ k hk u L st s0 h
  intro H locs ls hP hS hl
  exact lv_goto hC.1.1 hC.1.2.1 hd ht (hk _ _ _ _ _ h H locs ls hP hS hl)
theorem ok_dup (hd : decode cc pc = .ok (.dup, 1)) (hn : pc + 1 = nx) : Snd own cc nL d U ret pc (op_dup nx) := by
  intro g p l e R s m args below meth c w0 hC ad K N X Q hQ k hk u L st s0 h
  subst hn
  intro H locs ls hP hS hl
  unfold op_dup at h
  split at h
  · exact lv_dup hC.1.1 hC.1.2.1 hd (cL_cat ad _) (hk _ _ _ _ _ h H locs ls hP hS hl)
  · exact h.elim
theorem ok_dup2 (hd : decode cc pc = .ok (.dup2, 1)) (hn : pc + 1 = nx) : Snd own cc nL d U ret pc (op_dup2 nx) := by
  intro g p l e R s m args below meth c w0 hC ad K N X Q hQ k hk u L st s0 h
  subst hn
  intro H locs ls hP hS hl
  unfold op_dup2 at h
  split at h
  · exact lv_dup2_11 hC.1.1 hC.1.2.1 hd (cL_cat ad _) (cL_cat ad _) (hk _ _ _ _ _ h H locs ls hP hS hl)
  · exact h.elim
theorem ok_pop (hd : decode cc pc = .ok (.pop, 1)) (hn : pc + 1 = nx) : Snd own cc nL d U ret pc (op_pop nx) := by
  intro g p l e R s m args below meth c w0 hC ad K N X Q hQ k hk u L st s0 h
  subst hn
  intro H locs ls hP hS hl
  unfold op_pop at h
  split at h
  · exact lv_pop hC.1.1 hC.1.2.1 hd (cL_cat ad _) (hk _ _ _ _ _ h H locs ls hP hS hl)
  · exact h.elim
theorem ok_i2l (hd : decode cc pc = .ok (.i2l, 1)) (hn : pc + 1 = nx) : Snd own cc nL d U ret pc (op_i2l nx) := by
  intro g p l e R s m args below meth c w0 hC ad K N X Q hQ k hk u L st s0 h
  subst hn
  intro H locs ls hP hS hl
  unfold op_i2l at h
  split at h
  · exact lv_i2l hC.1.1 hC.1.2.1 hd rfl (hk _ _ _ _ _ h H locs ls hP hS hl)
  · exact h.elim
theorem ok_i2c (hd : decode cc pc = .ok (.i2c, 1)) (hn : pc + 1 = nx) : Snd own cc nL d U ret pc (op_i2c nx) := by
  intro g p l e R s m args below meth c w0 hC ad K N X Q hQ k hk u L st s0 h
  subst hn
  intro H locs ls hP hS hl
  unfold op_i2c at h
  split at h
  · exact lv_i2c hC.1.1 hC.1.2.1 hd rfl (hk _ _ _ _ _ h H locs ls hP hS hl)
  · exact h.elim
theorem ok_lconst {n : Fin 2} {v : Int64} (hd : decode cc pc = .ok (.lconst n, 1)) (hv : Int64.ofNat (n : Nat) = v) (hn : pc + 1 = nx) : Snd own cc nL d U ret pc (op_lc v nx) := by
  intro g p l e R s m args below meth c w0 hC ad K N X Q hQ k hk u L st s0 h
  subst hn
  intro H locs ls hP hS hl
  exact lv_lconst hC.1.1 hC.1.2.1 hd hv (hk _ _ _ _ _ h H locs ls hP hS hl)
theorem ok_lcmp (hd : decode cc pc = .ok (.lcmp, 1)) (hn : pc + 1 = nx) : Snd own cc nL d U ret pc (op_lcmp nx) := by
  intro g p l e R s m args below meth c w0 hC ad K N X Q hQ k hk u L st s0 h
  subst hn
  intro H locs ls hP hS hl
  unfold op_lcmp at h
  split at h
  · exact W.lcmp hC.1.1 hC.1.2.1 hd (hk _ _ _ _ _ h H locs ls hP hS hl)
  · exact h.elim
end Snds
