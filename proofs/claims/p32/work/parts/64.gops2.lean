/-! growth's instructions, more -/
theorem casts (a : Nat) (ha : a < 3) : ∃ (ci : Nat) (r : vw_C) (n : Nat), ob (12 + a) = some (ci, n) ∧ vwCl[ci]? = some r ∧ Cond.castable r.1 "java/lang/Object" ∈ XW := by
  have : a = 0 ∨ a = 1 ∨ a = 2 := by omega
  rcases this with rfl | rfl | rfl
  · exact ⟨4, _, 6, rfl, rfl, w_cP⟩
  · exact ⟨5, _, 8, rfl, rfl, w_cV⟩
  · exact ⟨2, _, 7, rfl, rfl, w_cC⟩
theorem er3 {s : Sg} {y j : Nat} : er s 3 y j = if j < s.1 y + s.1 (9 + y) then some (12 + y, j) else none := by
  unfold er
  rw [if_pos rfl]
theorem Lv3 {s : Sg} {a i : Nat} (ha : a < 3) : Lv s (12 + a) i = (i < s.1 a + s.1 (6 + a)) := by
  have : a = 0 ∨ a = 1 ∨ a = 2 := by omega
  rcases this with rfl | rfl | rfl <;> rfl
section Gops2
variable {own : String} {cc : ByteArray} {nL d U : Nat} {ret : Option FieldType} {pc nx : Nat}
/-- the old row's elements into the new one -/
def op_acopy (nx : Nat) : Sem := fun _ k _ _ u L st s => match st with
  | .inl (.inl n) :: .inl (.inl z1) :: .inl (.inr (59, b)) :: .inl (.inl z0) :: .inl (.inr (3, a)) :: st' => b = a ∧ z1 = 0 ∧ z0 = 0 ∧ a < 3 ∧ 0 < s.1 (3 + a) ∧ s.1 16 = a ∧ 0 < s.1 14 ∧ s.1 15 = 0 ∧ s.1 (9 + a) = 0 ∧ (¬ n < 0) ∧ n.toNatClampNeg ≤ s.1 (3 + a) ∧ n.toNatClampNeg ≤ s.1 14 ∧ s.1 a ≤ n.toNatClampNeg ∧ s.1 a ≤ s.1 a + s.1 (6 + a) ∧ catS st' ≤ 8 ∧ k nx u L st' (stC s 15 (s.1 a))
  | _ => False
theorem ok_acopy {idx : Nat} (h1 : Cond.methodLink own idx arraycopyName ∈ TB) (h2 : Cond.native arraycopyName ∈ TB) (h3 : Cond.static arraycopyName ∈ TB) (h4 : Cond.initialized "java/lang/System" ∈ TB) (hdd : 1 ≤ d)
    (hd : decode cc pc = .ok (.invokestatic idx, 3)) (hn : pc + 3 = nx) : Snd own cc nL d U ret pc (op_acopy nx) := by
  intro g p l e R s m args below meth c9 w0 hC ad K N X Q hQ k hk u L st s0 h
  subst hn
  intro H locs ls hP hS hl
  unfold op_acopy at h
  split at h
  · rename_i n z1 b z0 a st'
    obtain ⟨rfl, rfl, rfl, ha3, h30, h16, h14, h15, h9, hn0, hn3, hn14, hna, -, hcat, h⟩ := h
    obtain ⟨q0, he0, hK0⟩ := gws_at (g := g) (ad := ad) (s := s0) (hP.2.2.1 3 b ⟨ha3, h30⟩)
    rw [ent_2 (n := 0) rfl rfl] at he0
    obtain ⟨q1, he1, hK1⟩ := gws_at (g := g) (ad := ad) (s := s0) (hP.2.2.1 59 b ⟨h16.symm, h14⟩)
    have he1' : (gws g ad K s0)[q1]? = some (ad 59 b, .inl (g.2.1 2, s0.1 14, .inr (.inr (.inr (.inr (fun j => if j < s0.1 15 then some (ad (12 + b) j) else none)))))) := he1
    have ht : ∀ w ∈ TB, w.before args s = true := fun w hw => hC.1.2.2.2.2 w (List.mem_cons_of_mem _ hw)
    have hR := hC.2.2.2.2.1
    subst hR
    have hsp : (0 : Int32).toNatClampNeg = 0 := rfl
    refine va_copyM (D := g.1) hC.1.1 hC.1.2.1 (hC.1.2.2.1.trans hl.1.symm) hC.1.2.2.2.1 (ht _ h1) (ht _ h2) (ht _ h3) (ht _ h4) hC.2.1.1 hP.1 hP.2.1 hS q0 q1 2 2 he0 he1' rfl rfl (by decide) (by decide) hn0 (by rw [hsp]; omega) (by rw [hsp]; omega) ?_ (by show 1 ≤ d; exact hdd) ?_ hd (fun H1 locs1 hP1 hD1 hS1 => ?_)
    · intro i hi y hy
      rw [hsp, Nat.zero_add] at hy
      unfold er at hy
      rw [if_pos rfl] at hy
      by_cases hlt : i < s0.1 b + s0.1 (9 + b)
      · rw [if_pos hlt] at hy
        cases hy
        obtain ⟨ci, r, nf, ho, hr, hca⟩ := casts b ha3
        have hLb : Lv s0 (12 + b) i := by
          rw [Lv3 ha3]
          omega
        obtain ⟨q2, he2, hK2⟩ := gws_at (g := g) (ad := ad) (s := s0) (hP.2.2.1 _ _ hLb)
        rw [ent_ob ho] at he2
        refine va_rAny hC.2.1.1 hP.1 he2 hr fun comp c0 f1 f2 => ?_
        obtain ⟨x1, x2, y1, y2, y3⟩ := Cond.castable_spec (va_Nw.use (A := args) (XW_tab hca) (hC.2.1.2.2.2.2.1 _ hca))
        cases y1.symm.trans f2
        cases y2.symm.trans f1
        exact y3
      · rw [if_neg hlt] at hy
        cases hy
    · show _ + _ ≤ 38 * d
      rw [catS_ok]
      have : nativeFrameWords "java/lang/System" "arraycopy" 5 ≤ 12 := by decide
      omega
    · have hfe : ∀ x y, Lv s0 x y → ¬ (x, y) = (59, b) → ent g ad (stC s0 15 (s0.1 b)) x y = ent g ad s0 x y := fun x y hxy hne => ent_eq (fun _ => rfl) (fun _ => rfl) (fun hx => by subst hx; have : y < 3 := hxy; exact stC_ne (by omega))
        (fun hx => by subst hx; have : y < 3 := hxy.1; exact ⟨stC_ne (by omega), by rw [stC_ne (by omega), stC_ne (by omega)]⟩) ⟨fun _ => stC_ne (by decide), fun _ => stC_ne (by decide)⟩ (fun hx => by subst hx; exact absurd (by rw [hxy.1, h16]) hne) (fun _ _ _ => rfl)
      refine hk _ _ _ _ _ h H1 locs1 ls (GP_stK hP hK1 (s' := stC s0 15 (s0.1 b)) ?_ (fun z hz hne => hfe z.1 z.2 (hP.2.2.2.2.2.1 z hz) hne) (fun x y => ?_) (fun j hj hz => by rw [stC_ne (by omega)] at hz; exact hz) hP1 hD1) hS1 hl
      · show Sum.inl (g.2.1 2, (stC s0 15 (s0.1 b)).1 14, _) = _
        rw [stC_ne (by decide)]
        congr 7
        funext j
        rw [hsp]
        show (if j < (stC s0 15 (s0.1 b)).1 15 then some (ad (12 + b) j) else none) = va_cpy _ _ 0 0 _ j
        rw [stC_eq]
        unfold va_cpy
        by_cases hj : j < n.toNatClampNeg
        · rw [if_pos (by omega : 0 ≤ j ∧ j < 0 + n.toNatClampNeg)]
          show _ = (er s0 3 b (0 + (j - 0))).map (fun r => ad r.1 r.2)
          rw [er3, Nat.sub_zero, Nat.zero_add, h9, Nat.add_zero]
          by_cases hjb : j < s0.1 b
          · rw [if_pos hjb, if_pos hjb]; rfl
          · rw [if_neg hjb, if_neg hjb]; rfl
        · rw [if_neg (by omega : ¬ (0 ≤ j ∧ j < 0 + n.toNatClampNeg)), if_neg (by omega)]
          show none = if j < s0.1 15 then _ else _
          rw [if_neg (by omega)]
      · by_cases hx : x = 59
        · subst hx; exact Iff.rfl
        · rw [Lv_eq (fun c hc => stC_ne (by omega)) (stC_ne (by decide)) (stC_ne (by decide)) hx]
  · exact h.elim
/-- an element into a list's row, not yet counted -/
def op_aast3 (nx : Nat) : Sem := fun _ k _ _ u L st s => match st with
  | .inl (.inr (t, j)) :: .inl (.inl ix) :: .inl (.inr (3, a)) :: st' => t = 12 + a ∧ j = s.1 a ∧ a < 3 ∧ s.1 (6 + a) = 1 ∧ s.1 (9 + a) = 0 ∧ s.1 a < s.1 (3 + a) ∧ s.1 (3 + a) ≤ 100 ∧ ix = nI (s.1 a) ∧ k nx u L st' (stC s (9 + a) 1)
  | _ => False
theorem ok_aast3 (hd : decode cc pc = .ok (.aastore, 1)) (hn : pc + 1 = nx) : Snd own cc nL d U ret pc (op_aast3 nx) := by
  intro g p l e R s m args below meth c9 w0 hC ad K N X Q hQ k hk u L st s0 h
  subst hn
  intro H locs ls hP hS hl
  unfold op_aast3 at h
  split at h
  · rename_i t j ix a st'
    obtain ⟨rfl, rfl, ha3, h6, h9, hlt, h100, rfl, h⟩ := h
    obtain ⟨q0, he0, hK0⟩ := gws_at (g := g) (ad := ad) (s := s0) (hP.2.2.1 3 a ⟨ha3, by omega⟩)
    rw [ent_2 (n := 0) rfl rfl] at he0
    obtain ⟨ci, r, nf, ho, hr, hca⟩ := casts a ha3
    have hLb : Lv s0 (12 + a) (s0.1 a) := by
      rw [Lv3 ha3]
      omega
    obtain ⟨q2, he2, hK2⟩ := gws_at (g := g) (ad := ad) (s := s0) (hP.2.2.1 _ _ hLb)
    rw [ent_ob ho] at he2
    have hc0 : (nI (s0.1 a)).toNatClampNeg = s0.1 a := nI_clamp (by omega)
    refine va_astqO (D := g.1) hC.1.1 hC.1.2.1 hC.2.1.1 hP.1 hP.2.1 hS q0 2 q2 ci he0 rfl (hC.2.1.2.2.2.2.1 _ hca) he2 hr (vp_in_nI hlt (by omega)) hd (fun H1 locs1 hP1 hD1 hS1 => ?_)
    refine hk _ _ _ _ _ h H1 locs1 ls (GP_stK hP hK0 (s' := stC s0 (9 + a) 1) ?_ (fun z hz hne => ?_) (fun x y => ?_) (fun j hj hz => by rw [stC_ne (by omega)] at hz; exact hz) hP1 hD1) hS1 hl
    · rw [ent_2 (n := 0) rfl rfl, stC_ne (by omega)]
      congr 7
      funext j
      rw [hc0]
      unfold va_up
      show (er (stC s0 (9 + a) 1) 3 a j).map (fun r => ad r.1 r.2) = if j = s0.1 a then _ else (er s0 3 a j).map (fun r => ad r.1 r.2)
      rw [er3, er3, stC_ne (by omega), stC_eq, h9, Nat.add_zero]
      by_cases hj : j = s0.1 a
      · rw [if_pos hj, if_pos (by omega), hj]; rfl
      · rw [if_neg hj]
        by_cases hj2 : j < s0.1 a
        · rw [if_pos (by omega), if_pos (by omega)]
        · rw [if_neg (by omega), if_neg (by omega)]
    · have hxy := hP.2.2.2.2.2.1 z hz
      obtain ⟨x, y⟩ := z
      exact ent_eq (fun _ => rfl) (fun _ => rfl) (fun hx => by subst hx; have : y < 3 := hxy; exact stC_ne (by omega))
        (fun hx => by subst hx; have : y < 3 := hxy.1; exact ⟨stC_ne (by omega), by rw [stC_ne (by omega), stC_ne (fun hc => hne (by rw [show y = a by omega]))]⟩) ⟨fun _ => stC_ne (by omega), fun _ => stC_ne (by omega)⟩ (fun hx => ⟨stC_ne (by omega), stC_ne (by omega)⟩) (fun _ _ _ => rfl)
    · unfold Lv
      split <;> first | exact Iff.rfl | (rw [stC_ne (by omega), stC_ne (by omega)]) | (rw [stC_ne (by omega)]) | (exact and_congr_right fun hi => by rw [stC_ne (by omega)])
  · exact h.elim
/-- the list counts it -/
def pszS (s : Sg) (a : Nat) : Sg := stC (stC (stC s a (s.1 a + 1)) (6 + a) 0) (9 + a) 0
theorem pszS_ne {s : Sg} {a c : Nat} (h : ¬ c = a) (h6 : ¬ c = 6 + a) (h9 : ¬ c = 9 + a) : (pszS s a).1 c = s.1 c := by
  unfold pszS
  rw [stC_ne h9, stC_ne h6, stC_ne h]
theorem pszS_a {s : Sg} {a : Nat} : (pszS s a).1 a = s.1 a + 1 := by
  unfold pszS
  rw [stC_ne (by omega), stC_ne (by omega), stC_eq]
theorem pszS_6 {s : Sg} {a : Nat} : (pszS s a).1 (6 + a) = 0 := by
  unfold pszS
  rw [stC_ne (by omega), stC_eq]
theorem pszS_9 {s : Sg} {a : Nat} : (pszS s a).1 (9 + a) = 0 := stC_eq
def op_psize (nx : Nat) : Sem := fun _ k _ _ u L st s => match st with
  | .inl (.inl v) :: .inl (.inr (2, a)) :: st' => a < 3 ∧ s.1 (6 + a) = 1 ∧ s.1 (9 + a) = 1 ∧ v = nI (s.1 a + 1) ∧ k nx u L st' (pszS s a)
  | _ => False
theorem ok_psize {idx : Nat} (hin : ∀ w ∈ u_ws RJx4a65c TJx4a65c 3, w ∈ TB) (hw : Cond.fieldLink own idx (TJx4a65c 2).1 (TJx4a65c 2).2.1 (TJx4a65c 2).2.2.1 ∈ TB) (hd : decode cc pc = .ok (.putfield idx, 3)) (hn : pc + 3 = nx) : Snd own cc nL d U ret pc (op_psize nx) := by
  intro g p l e R s m args below meth c9 w0 hC ad K N X Q hQ k hk u L st s0 h
  subst hn
  intro H locs ls hP hS hl
  unfold op_psize at h
  split at h
  · rename_i v a st'
    obtain ⟨ha3, h6, h9, rfl, h⟩ := h
    obtain ⟨q0, he0, hK0⟩ := gws_at (g := g) (ad := ad) (s := s0) (hP.2.2.1 2 a ha3)
    rw [ent_ob (c := 1) (n := 3) rfl] at he0
    refine va_put (D := g.1) (ci := 1) (v := .int (nI (s0.1 a + 1))) (ty := .int) (Ts := w0 :: TB) hC.1.1 hC.1.2.1 hC.1.2.2.2.2 (fun w hw => List.mem_cons_of_mem _ (hin w hw)) tyJx4a65c tyJx4a65c_ok nmJx4a65c hC.1.2.2.2.1 hC.2.1.1 hP.1 hP.2.1 hS q0 he0 rfl 2 (by decide) (hC.1.2.2.2.2 _ (List.mem_cons_of_mem _ hw)) (fun _ q => q) rfl rfl rfl rfl (by simp) hd (fun H1 locs1 hP1 hD1 hS1 => ?_)
    refine hk _ _ _ _ _ h H1 locs1 ls (GP_stK hP hK0 (s' := pszS s0 a) ?_ (fun z hz hne => ?_) (fun x y => ?_) (fun j hj hz => by rw [pszS_ne (by omega) (by omega) (by omega)] at hz; exact hz) hP1 hD1) hS1 hl
    · rw [ent_ob (c := 1) (n := 3) rfl]
      congr 2
      show [_, _, Value.int (nI ((pszS s0 a).1 a))] = _
      rw [pszS_a]
      rfl
    · have hxy := hP.2.2.2.2.2.1 z hz
      obtain ⟨x, y⟩ := z
      exact ent_eq (fun _ => rfl) (fun _ => rfl) (fun hx => by subst hx; have : y < 3 := hxy; exact pszS_ne (fun hc => hne (by rw [show y = a by omega])) (by omega) (by omega))
        (fun hx => by
          subst hx
          have : y < 3 := hxy.1
          refine ⟨pszS_ne (by omega) (by omega) (by omega), ?_⟩
          by_cases hya : y = a
          · subst hya
            rw [pszS_a, pszS_9, h9]
          · rw [pszS_ne hya (by omega) (by omega), pszS_ne (by omega) (by omega) (by omega)]) ⟨fun _ => pszS_ne (by omega) (by omega) (by omega), fun _ => pszS_ne (by omega) (by omega) (by omega)⟩ (fun hx => ⟨pszS_ne (by omega) (by omega) (by omega), pszS_ne (by omega) (by omega) (by omega)⟩) (fun _ _ _ => rfl)
    · have hk3 : ∀ b, b < 3 → (pszS s0 a).1 b + (pszS s0 a).1 (6 + b) = s0.1 b + s0.1 (6 + b) := by
        intro b hb
        by_cases hba : b = a
        · subst hba
          rw [pszS_a, pszS_6, h6]
        · rw [pszS_ne hba (by omega) (by omega), pszS_ne (by omega) (by omega) (by omega)]
      have hk0 := hk3 0 (by decide)
      have hk1 := hk3 1 (by decide)
      have hk2 := hk3 2 (by decide)
      unfold Lv
      split <;> first | exact Iff.rfl | (rw [show (pszS s0 a).1 0 + (pszS s0 a).1 6 = s0.1 0 + s0.1 6 from hk0]) | (rw [show (pszS s0 a).1 1 + (pszS s0 a).1 7 = s0.1 1 + s0.1 7 from hk1]) | (rw [show (pszS s0 a).1 2 + (pszS s0 a).1 8 = s0.1 2 + s0.1 8 from hk2]) | (rw [pszS_ne (by omega) (by omega) (by omega), pszS_ne (by omega) (by omega) (by omega)]) | (rw [pszS_ne (by omega) (by omega) (by omega)]) | (exact and_congr_right fun hi => by rw [pszS_ne (by omega) (by omega) (by omega)])
  · exact h.elim
/-- the row made is the list's -/
def setR (s : Sg) (a : Nat) : Sg := stC (stC s (3 + a) (s.1 14)) 14 0
theorem setR_ne {s : Sg} {a c : Nat} (h : ¬ c = 3 + a) (h14 : ¬ c = 14) : (setR s a).1 c = s.1 c := by
  unfold setR
  rw [stC_ne h14, stC_ne h]
theorem setR_3 {s : Sg} {a : Nat} (h : a < 3) : (setR s a).1 (3 + a) = s.1 14 := by
  unfold setR
  rw [stC_ne (by omega), stC_eq]
theorem setR_14 {s : Sg} {a : Nat} : (setR s a).1 14 = 0 := stC_eq
def op_prow (nx : Nat) : Sem := fun _ k _ _ u L st s => match st with
  | .inl (.inr (59, i)) :: .inl (.inr (2, a)) :: st' => i = a ∧ a < 3 ∧ 0 < s.1 14 ∧ s.1 16 = a ∧ s.1 15 = s.1 a + s.1 (9 + a) ∧ lvs s st' ∧ lvK s L (fun L' => k nx u L' (aR 3 a :: st') (setR s a))
  | _ => False
set_option maxHeartbeats 1000000 in
theorem ok_prow {idx : Nat} (hin : ∀ w ∈ u_ws RJx4a65c TJx4a65c 3, w ∈ TB) (hw : Cond.fieldLink own idx (TJx4a65c 1).1 (TJx4a65c 1).2.1 (TJx4a65c 1).2.2.1 ∈ TB) (hd0 : decode cc pc = .ok (.dup_x1, 1)) (hd : decode cc (pc + 1) = .ok (.putfield idx, 3)) (hn : pc + 4 = nx) : GSnd own cc nL d U ret pc (op_prow nx) := by
  intro g p l e R s m args below meth c9 w0 hC ad0 K0 N X Q hQ k hk u L st s1 h ad K hE
  subst hn
  intro H locs ls hP hS hl
  unfold op_prow at h
  split at h
  · rename_i i a st'
    obtain ⟨rfl, ha3, h14, h16, h15, hlv, hlk⟩ := h
    obtain ⟨L', hk2, hsub⟩ := lvK_ok hlk
    obtain ⟨q0, he0, hK0⟩ := gws_at (g := g) (ad := ad) (s := s1) (hP.2.2.1 2 i ha3)
    rw [ent_ob (c := 1) (n := 3) rfl] at he0
    refine lv_dup_x1 hC.1.1 hC.1.2.1 hd0 rfl rfl ?_
    refine va_put (D := g.1) (ci := 1) (v := .ref (ad 59 i)) (ty := .array (.object "java/lang/Object")) (Ts := w0 :: TB) hC.1.1 hC.1.2.1 hC.1.2.2.2.2 (fun w hw => List.mem_cons_of_mem _ (hin w hw)) tyJx4a65c tyJx4a65c_ok nmJx4a65c hC.1.2.2.2.1 hC.2.1.1 hP.1 hP.2.1 hS q0 he0 rfl 1 (by decide) (hC.1.2.2.2.2 _ (List.mem_cons_of_mem _ hw)) (fun _ q => q) rfl rfl rfl rfl (by simp) hd (fun H1 locs1 hP1 hD1 hS1 => ?_)
    have h59 : (59, i) ∈ K := hP.2.2.1 59 i ⟨h16.symm, h14⟩
    have hinj := gws_nd hP.2.1
    generalize hK' : (K.filter fun z => decide (¬ z = (3, i) ∧ ¬ z = (59, i))) = K1
    have hK1 : ∀ z, z ∈ K1 ↔ z ∈ K ∧ ¬ z = (3, i) ∧ ¬ z = (59, i) := fun z => by rw [← hK', List.mem_filter, decide_eq_true_eq]
    have hadold : ∀ t j, ¬ (t = 3 ∧ j = i) → adN ad 3 i (ad 59 i) t j = ad t j := fun t j hh => adN_old hh
    have hne59 : ∀ x y, Lv s1 x y → ¬ (x, y) = (59, i) → ¬ x = 59 := fun x y hxy hne hx => by subst hx; exact hne (by rw [hxy.1, h16])
    have hent : ∀ x y, Lv s1 x y → ¬ (x, y) = (3, i) → ¬ (x, y) = (59, i) → ¬ (x, y) = (2, i) → ent g (adN ad 3 i (ad 59 i)) (setR s1 i) x y = ent g ad s1 x y := fun x y hxy n3 n59 n2 =>
      ent_eq (fun _ => rfl) (fun _ => rfl) (fun hx => by subst hx; have : y < 3 := hxy; exact setR_ne (by omega) (by omega)) (fun hx => by subst hx; have : y < 3 := hxy.1; exact ⟨setR_ne (fun hc => n3 (by rw [show y = i by omega])) (by omega), by rw [setR_ne (by omega) (by omega), setR_ne (by omega) (by omega)]⟩)
        ⟨fun _ => setR_ne (by omega) (by omega), fun _ => setR_ne (by omega) (by omega)⟩ (fun hx => absurd hx (hne59 x y hxy n59)) (fun t j hR => hadold t j fun hc => by
          have h9 := (RF_no hR (fun hx => by subst hx; exact hxy.1) (hne59 x y hxy n59)).1 hc.1
          exact n2 (by rw [h9.1, ← h9.2, hc.2]))
    have e3 : ent g (adN ad 3 i (ad 59 i)) (setR s1 i) 3 i = ent g ad s1 59 i := by
      rw [ent_2 (n := 0) rfl rfl, setR_3 ha3]
      show Sum.inl (g.2.1 2, s1.1 14, _) = Sum.inl (g.2.1 2, s1.1 14, _)
      congr 7
      funext j
      unfold er
      rw [if_pos rfl, setR_ne (by omega) (by omega), setR_ne (by omega) (by omega), h15]
      by_cases hj : j < s1.1 i + s1.1 (9 + i)
      · rw [if_pos hj, if_pos hj]
        show some (adN ad 3 i (ad 59 i) (12 + i) j) = _
        rw [hadold _ _ (by omega)]
      · rw [if_neg hj, if_neg hj]; rfl
    have e2 : ent g (adN ad 3 i (ad 59 i)) (setR s1 i) 2 i = .inr (1, ((List.range 3).map (fun k => cL ad (gf s1 2 i k))).set 1 (.ref (ad 59 i))) := by
      rw [ent_ob (c := 1) (n := 3) rfl]
      congr 2
      show [_, Value.ref (adN ad 3 i (ad 59 i) 3 i), Value.int (nI ((setR s1 i).1 i))] = _
      rw [adN_new, setR_ne (by omega) (by omega)]
      rfl
    have hmem : ∀ x ∈ gws g (adN ad 3 i (ad 59 i)) (K1 ++ [(3, i)]) (setR s1 i), x ∈ (gws g ad K s1).set q0 (ad 2 i, .inr (1, ((List.range 3).map (fun k => cL ad (gf s1 2 i k))).set 1 (.ref (ad 59 i)))) := by
      intro x hx
      unfold gws at hx
      obtain ⟨z, hz, rfl⟩ := List.mem_map.mp hx
      rcases List.mem_append.mp hz with hz | hz
      · obtain ⟨hzK, n3, n59⟩ := (hK1 z).mp hz
        obtain ⟨t, j⟩ := z
        have hxy := hP.2.2.2.2.2.1 _ hzK
        rw [show adN ad 3 i (ad 59 i) (t, j).1 (t, j).2 = ad t j from hadold t j fun hc => n3 (by rw [hc.1, hc.2])]
        by_cases n2 : (t, j) = (2, i)
        · cases n2
          rw [e2]
          exact List.mem_of_getElem? (i := q0) (by rw [List.getElem?_set_self (List.getElem?_eq_some_iff.mp he0).1])
        · rw [hent t j hxy n3 n59 n2]
          exact gws_set_mem hP.2.1 hK0 hzK n2
      · rw [List.mem_singleton.mp hz, e3, adN_new]
        exact gws_set_mem hP.2.1 hK0 h59 (fun hc => by cases hc)
    have hnd : ((gws g (adN ad 3 i (ad 59 i)) (K1 ++ [(3, i)]) (setR s1 i)).map (·.1)).Nodup := by
      have e9 : (gws g (adN ad 3 i (ad 59 i)) (K1 ++ [(3, i)]) (setR s1 i)).map (·.1) = K1.map (fun q => ad q.1 q.2) ++ [ad 59 i] := by
        unfold gws
        rw [List.map_map, List.map_append]
        congr 1
        · refine List.map_congr_left fun z hz => ?_
          exact hadold z.1 z.2 fun hc => ((hK1 z).mp hz).2.1 (by rw [← hc.1, ← hc.2])
        · show [adN ad 3 i (ad 59 i) 3 i] = _
          rw [adN_new]
      rw [e9, List.nodup_append]
      refine ⟨?_, by simp, ?_⟩
      · rw [← hK']
        exact hinj.sublist ((List.filter_sublist).map _)
      · intro x hx y hy hxy
        obtain ⟨z, hz, rfl⟩ := List.mem_map.mp hx
        rw [List.mem_singleton.mp hy] at hxy
        exact ((hK1 z).mp hz).2.2 (ad_inj hinj ((hK1 z).mp hz).1 h59 hxy)
    have hPn := VP_mem hP1 hmem
    have hDn : va_D (gA g) (gws g (adN ad 3 i (ad 59 i)) (K1 ++ [(3, i)]) (setR s1 i)) := VD_iff.mpr ⟨hnd, fun x hx => (VD_iff.mp hD1).2 x (hmem x hx)⟩
    have hLv : ∀ x y, Lv (setR s1 i) x y ↔ (x, y) ∈ K1 ++ [(3, i)] := by
      intro x y
      rw [List.mem_append, List.mem_singleton, hK1]
      by_cases hx3 : (x, y) = (3, i)
      · cases hx3
        exact ⟨fun _ => Or.inr rfl, fun _ => ⟨ha3, by rw [setR_3 ha3]; exact h14⟩⟩
      · by_cases hx59 : x = 59
        · subst hx59
          constructor
          · intro h9
            have := h9.2
            rw [setR_14] at this
            omega
          · rintro (h9 | h9)
            · have := hP.2.2.2.2.2.1 _ h9.1
              exact absurd (congrArg (fun q => (59, q)) (show y = i from this.1.trans h16)) h9.2.2
            · cases h9
        · have e9 : Lv (setR s1 i) x y = Lv s1 x y := by
            unfold Lv
            split <;> first | rfl | (exact absurd rfl hx59) | (rw [setR_ne (by omega) (by omega), setR_ne (by omega) (by omega)]) | (rw [setR_ne (by omega) (by omega)]) | (exact propext (and_congr_right fun hi => by rw [setR_ne (fun hc => hx3 (by rw [show y = i by omega])) (by omega)]))
          rw [e9]
          constructor
          · intro h9
            exact Or.inl ⟨hP.2.2.1 x y h9, hx3, fun hc => hx59 (by cases hc; rfl)⟩
          · rintro (h9 | h9)
            · exact hP.2.2.2.2.2.1 _ h9.1
            · exact absurd h9 hx3
    have hz2 : g.2.2 ≤ H1.size := by
      have e9 : ((gws g ad K s1).set q0 (ad 2 i, .inr (1, ((List.range 3).map (fun k => cL ad (gf s1 2 i k))).set 1 (.ref (ad 59 i)))))[q0]? = some _ := List.getElem?_set_self (List.getElem?_eq_some_iff.mp he0).1
      exact Nat.le_of_lt (Nat.lt_of_le_of_lt (hD1.2 q0 _ e9) ((hP1 q0 _ e9).lt))
    have hGP : GP g (adN ad 3 i (ad 59 i)) (K1 ++ [(3, i)]) (setR s1 i) H1 := ⟨hPn, hDn, fun x y hxy => (hLv x y).mp hxy, hz2, fun j hj hz => by
      by_cases hji : j = i
      · subst hji
        rw [setR_3 ha3] at hz
        omega
      · rw [setR_ne (by omega) (by omega)] at hz
        rw [hadold 3 j (by omega)]
        exact hP.2.2.2.2.1 j hj hz, fun z hz => (hLv z.1 z.2).mpr hz, fun t j h70 => by rw [hadold t j (by omega)]; exact gp_const hP j h70⟩
    have hE1 : Ex ad K (adN ad 3 i (ad 59 i)) (K1 ++ [(3, i)]) := fun z hz n58 n59 => by
      refine ⟨?_, fun n3 _ => hadold z.1 z.2 fun hc => n3 hc.1⟩
      by_cases h3 : z = (3, i)
      · exact List.mem_append_right _ (List.mem_singleton.mpr h3)
      · exact List.mem_append_left _ ((hK1 z).mpr ⟨hz, h3, fun hc => n59 (by rw [hc])⟩)
    have hl1 := has_mem hl (hsub hP.2.2.1 hE1 (gp_cc hP hGP))
    have key := hk _ _ _ _ _ hk2 _ _ (hE.tr hE1) H1 locs1 ls hGP hS1 hl1
    rw [List.map_cons, ← lvs_ok hP.2.2.1 hE1 (gp_cc hP hGP) hlv, show cv (adN ad 3 i (ad 59 i)) (aR 3 i) = .ref (ad 59 i) from congrArg Value.ref adN_new] at key
    exact key
  · exact h.elim
end Gops2

