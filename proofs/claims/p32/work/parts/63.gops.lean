/-! growth's instructions -/
theorem stC_ne {s : Sg} {k v c : Nat} (h : ¬ c = k) : (stC s k v).1 c = s.1 c := if_neg h
theorem stC_eq {s : Sg} {k v : Nat} : (stC s k v).1 k = v := if_pos rfl
theorem Lv_eq {s s' : Sg} {x y : Nat} (h : ∀ c, c < 14 → s'.1 c = s.1 c) (h17 : s'.1 17 = s.1 17) (h18 : s'.1 18 = s.1 18) (hx : ¬ x = 59) : Lv s' x y = Lv s x y := by
  unfold Lv
  split <;> first | rfl | (exact absurd rfl hx) | (exact propext (and_congr_right fun hi => by rw [h _ (by omega)])) | (rw [h _ (by omega), h _ (by omega)]) | (rw [h _ (by omega)]) | (rw [h17]) | (rw [h18])
theorem gws_setK {g : GPm} {ad : Nat → Nat → Nat} {K : List (Nat × Nat)} {s s' : Sg} {t i q0 : Nat} {A : Nat → Prop} (hD : va_D A (gws g ad K s)) (hq : K[q0]? = some (t, i)) {e : va_E} (he : ent g ad s' t i = e)
    (ho : ∀ z ∈ K, ¬ z = (t, i) → ent g ad s' z.1 z.2 = ent g ad s z.1 z.2) : (gws g ad K s).set q0 (ad t i, e) = gws g ad K s' := by
  have hlen : q0 < K.length := (List.getElem?_eq_some_iff.mp hq).1
  apply List.ext_getElem?
  intro k
  unfold gws
  rw [List.getElem?_set]
  by_cases hk : q0 = k
  · subst hk
    rw [if_pos rfl, List.length_map, if_pos hlen, List.getElem?_map, hq]
    simp [he]
  · rw [if_neg hk, List.getElem?_map, List.getElem?_map]
    cases hc : K[k]? with
    | none => rfl
    | some q =>
      have hne : ¬ q = (t, i) := by
        rintro rfl
        refine hk (hD.1 q0 k (ad t i, ent g ad s t i) (ad t i, ent g ad s t i) ?_ ?_ rfl)
        · unfold gws; rw [List.getElem?_map, hq]; rfl
        · unfold gws; rw [List.getElem?_map, hc]; rfl
      simp [ho q (List.mem_of_getElem? hc) hne]
/-- one thing of the world is another, the counts may have changed -/
theorem GP_stK {g : GPm} {ad : Nat → Nat → Nat} {K : List (Nat × Nat)} {s0 s' : Sg} {t i q0 : Nat} {H H1 : Heap} {e : va_E} (hP : GP g ad K s0 H) (hK0 : K[q0]? = some (t, i)) (he : ent g ad s' t i = e) (ho : ∀ z ∈ K, ¬ z = (t, i) → ent g ad s' z.1 z.2 = ent g ad s0 z.1 z.2)
    (hLv : ∀ x y, Lv s' x y ↔ Lv s0 x y) (htie : ∀ j, j < 3 → s'.1 (3 + j) = 0 → s0.1 (3 + j) = 0)
    (hP1 : va_P g.1 vwCl ((gws g ad K s0).set q0 (ad t i, e)) H1) (hD1 : va_D (gA g) ((gws g ad K s0).set q0 (ad t i, e))) : GP g ad K s' H1 := by
  have hl : q0 < (gws g ad K s0).length := by unfold gws; rw [List.length_map]; exact (List.getElem?_eq_some_iff.mp hK0).1
  have hz2 : g.2.2 ≤ H1.size := by
    have := (hP1 q0 _ (by rw [List.getElem?_set_self hl])).lt
    have h5 := hD1.2 q0 _ (by rw [List.getElem?_set_self hl])
    exact Nat.le_of_lt (Nat.lt_of_le_of_lt h5 this)
  rw [gws_setK hP.2.1 hK0 he ho] at hP1 hD1
  exact ⟨hP1, hD1, fun x y h => hP.2.2.1 x y ((hLv x y).mp h), hz2, fun j hj h => hP.2.2.2.2.1 j hj (htie j hj h), fun z hz => (hLv z.1 z.2).mpr (hP.2.2.2.2.2.1 z hz), hP.2.2.2.2.2.2⟩
section Gops
variable {own : String} {cc : ByteArray} {nL d U : Nat} {ret : Option FieldType} {pc nx : Nat}
def op_gs (c i nx : Nat) : Sem := fun _ k _ _ u L st s => k nx u L (aR c i :: st) s
theorem ok_gs {cn nm ds : String} {c i idx : Nat} (h70 : 70 ≤ c) (hZ : ∀ (g : GPm) (U : State), GS g U → va_Z cn nm ds (.ref (g.2.1 (1000 * c + i))) (gA g) U U.heap) (hw : Cond.fieldLink own idx cn nm ds ∈ TB)
    (hd : decode cc pc = .ok (.getstatic idx, 3)) (hn : pc + 3 = nx) : Snd own cc nL d U ret pc (op_gs c i nx) := by
  intro g p l e R s m args below meth c9 w0 hC ad K N X Q hQ k hk u L st s0 h
  subst hn
  intro H locs ls hP hS hl
  have key := hk _ _ _ _ _ h H locs ls hP hS hl
  rw [List.map_cons, show cv ad (aR c i) = .ref (g.2.1 (1000 * c + i)) from congrArg Value.ref (gp_const hP i h70)] at key
  exact va_gets hC.1.1 hC.1.2.1 (hZ g s hC.2.1) hS hC.1.2.2.2.1 (hC.1.2.2.2.2 _ (List.mem_cons_of_mem _ hw)) (fun _ q => q) hd key
def op_gsi (v : Int32) (nx : Nat) : Sem := fun _ k _ _ u L st s => k nx u L (aI v :: st) s
theorem ok_gsi {cn nm ds : String} {v : Int32} {idx : Nat} (hZ : ∀ (g : GPm) (U : State), GS g U → va_Z cn nm ds (.int v) (gA g) U U.heap) (hw : Cond.fieldLink own idx cn nm ds ∈ TB)
    (hd : decode cc pc = .ok (.getstatic idx, 3)) (hn : pc + 3 = nx) : Snd own cc nL d U ret pc (op_gsi v nx) := by
  intro g p l e R s m args below meth c9 w0 hC ad K N X Q hQ k hk u L st s0 h
  subst hn
  intro H locs ls hP hS hl
  exact va_gets hC.1.1 hC.1.2.1 (hZ g s hC.2.1) hS hC.1.2.2.2.1 (hC.1.2.2.2.2 _ (List.mem_cons_of_mem _ hw)) (fun _ q => q) hd (hk _ _ _ _ _ h H locs ls hP hS hl)
/-- two references that are the same -/
def op_acmpe (nx : Nat) : Sem := fun _ k _ _ u L st s => match st with
  | .inl (.inr (t2, i2)) :: .inl (.inr (t1, i1)) :: st' => ((t1 = t2 ∧ i1 = i2) ∨ (t1 = 3 ∧ i1 < 3 ∧ s.1 (3 + i1) = 0 ∧ t2 = 73 ∧ i2 = 0)) ∧ k nx u L st' s
  | _ => False
theorem acmp_e {g : GPm} {ad : Nat → Nat → Nat} {K : List (Nat × Nat)} {s0 : Sg} {H : Heap} (hP : GP g ad K s0 H) {t1 i1 t2 i2 : Nat} (h : (t1 = t2 ∧ i1 = i2) ∨ (t1 = 3 ∧ i1 < 3 ∧ s0.1 (3 + i1) = 0 ∧ t2 = 73 ∧ i2 = 0)) : ad t1 i1 = ad t2 i2 := by
  rcases h with ⟨rfl, rfl⟩ | ⟨rfl, h1, h2, rfl, rfl⟩
  · rfl
  · rw [hP.2.2.2.2.1 i1 h1 h2, gp_const hP 0 (by decide)]
theorem ok_acmpe {off : Int} (hd : decode cc pc = .ok (.if_acmp .eq off, 3)) (ht : (pc : Int) + off = (nx : Int)) : Snd own cc nL d U ret pc (op_acmpe nx) := by
  intro g p l e R s m args below meth c9 w0 hC ad K N X Q hQ k hk u L st s0 h
  intro H locs ls hP hS hl
  unfold op_acmpe at h
  split at h
  · rename_i t2 i2 t1 i1 st'
    exact lv_acmp_eq (rx := some (ad t1 i1)) (ry := some (ad t2 i2)) hC.1.1 hC.1.2.1 hd ht (fun _ => hk _ _ _ _ _ h.2 H locs ls hP hS hl) (fun q => absurd (congrArg some (acmp_e hP h.1)) q)
  · exact h.elim
theorem ok_acmpn {off : Int} {tg : Nat} (hd : decode cc pc = .ok (.if_acmp .ne off, 3)) (ht : (pc : Int) + off = (tg : Int)) (hn : pc + 3 = nx) : Snd own cc nL d U ret pc (op_acmpe nx) := by
  intro g p l e R s m args below meth c9 w0 hC ad K N X Q hQ k hk u L st s0 h
  subst hn
  intro H locs ls hP hS hl
  unfold op_acmpe at h
  split at h
  · rename_i t2 i2 t1 i1 st'
    exact lv_acmp_ne (rx := some (ad t1 i1)) (ry := some (ad t2 i2)) hC.1.1 hC.1.2.1 hd ht (fun q => absurd (congrArg some (acmp_e hP h.1)) q) (fun _ => hk _ _ _ _ _ h.2 H locs ls hP hS hl)
  · exact h.elim
/-- a list's row: how many places -/
def op_alen3 (nx : Nat) : Sem := fun _ k _ _ u L st s => match st with
  | .inl (.inr (3, a)) :: st' => a < 3 ∧ k nx u L (aI (nI (s.1 (3 + a))) :: st') s
  | _ => False
theorem ok_alen3 (hd : decode cc pc = .ok (.arraylength, 1)) (hn : pc + 1 = nx) : Snd own cc nL d U ret pc (op_alen3 nx) := by
  intro g p l e R s m args below meth c9 w0 hC ad K N X Q hQ k hk u L st s0 h
  subst hn
  intro H locs ls hP hS hl
  unfold op_alen3 at h
  split at h
  · rename_i a st'
    obtain ⟨ha3, h⟩ := h
    have key := hk _ _ _ _ _ h H locs ls hP hS hl
    by_cases h0 : s0.1 (3 + a) = 0
    · rw [h0] at key
      rw [List.map_cons, show cv ad (aR 3 a) = .ref (g.2.1 73000) from congrArg Value.ref (hP.2.2.2.2.1 a ha3 h0)]
      exact va_tlen hC.1.1 hC.1.2.1 hC.2.1.2.2.2.2.2.2.1 hS (v := nI 0) rfl hd key
    · obtain ⟨q0, ha, hK0⟩ := gws_at (g := g) (ad := ad) (s := s0) (hP.2.2.1 3 a ⟨ha3, Nat.pos_of_ne_zero h0⟩)
      rw [ent_2 (n := 0) rfl rfl] at ha
      exact va_alen (D := g.1) hC.1.1 hC.1.2.1 hC.2.1.1 hP.1 q0 2 ha rfl (v := nI (s0.1 (3 + a))) rfl hd key
  · exact h.elim
/-- the class of a list's row -/
def op_getC (nx : Nat) : Sem := fun _ k _ _ u L st s => match st with
  | .inl (.inr (3, a)) :: st' => a < 3 ∧ 0 < s.1 (3 + a) ∧ catS st' ≤ 8 ∧ k nx u L (aR 73 2 :: st') s
  | _ => False
theorem ok_getC {idx : Nat} (h1 : Cond.methodLink own idx ⟨"java/lang/Object", "getClass", "()Ljava/lang/Class;"⟩ ∈ TB) (h2 : Cond.declares ⟨"java/lang/Object", "getClass", "()Ljava/lang/Class;"⟩ ∈ XW) (h3 : Cond.selects "[Ljava/lang/Object;" ⟨"java/lang/Object", "getClass", "()Ljava/lang/Class;"⟩ ⟨"java/lang/Object", "getClass", "()Ljava/lang/Class;"⟩ ∈ TB)
    (h4 : Cond.instanceMethod ⟨"java/lang/Object", "getClass", "()Ljava/lang/Class;"⟩ ∈ TB) (h5 : Cond.native ⟨"java/lang/Object", "getClass", "()Ljava/lang/Class;"⟩ ∈ TB) (hdd : 1 ≤ d) (hd : decode cc pc = .ok (.invokevirtual idx, 3)) (hn : pc + 3 = nx) : Snd own cc nL d U ret pc (op_getC nx) := by
  intro g p l e R s m args below meth c9 w0 hC ad K N X Q hQ k hk u L st s0 h
  subst hn
  intro H locs ls hP hS hl
  unfold op_getC at h
  split at h
  · rename_i a st'
    obtain ⟨ha3, h0, hcat, h⟩ := h
    have key := hk _ _ _ _ _ h H locs ls hP hS hl
    rw [List.map_cons, show cv ad (aR 73 2) = .ref (g.2.1 73002) from congrArg Value.ref (gp_const hP 2 (by decide))] at key
    obtain ⟨q0, ha, hK0⟩ := gws_at (g := g) (ad := ad) (s := s0) (hP.2.2.1 3 a ⟨ha3, h0⟩)
    rw [ent_2 (n := 0) rfl rfl] at ha
    have ht : ∀ w ∈ TB, w.before args s = true := fun w hw => hC.1.2.2.2.2 w (List.mem_cons_of_mem _ hw)
    have hR := hC.2.2.2.2.1
    subst hR
    have hnm : s.vm.findClass "[Ljava/lang/Object;" = some (g.2.1 2) := va_nmO ((hC.2.1.1.2 2 _ rfl).2) rfl
    have hcell := hP.1 q0 _ ha
    refine va_getC hC.1.1 hC.1.2.1 (hC.1.2.2.1.trans hl.1.symm) hC.1.2.2.2.1 (ht _ h1) (va_Nw.use (XW_tab h2) (hC.2.1.2.2.2.2.1 _ h2)) (ht _ h3) (ht _ h4) (ht _ h5) hC.2.1.2.2.2.2.2.2.2.2.2.2.2.2.2.2.2.2 ⟨_, hcell, rfl, hnm⟩ (by show 1 ≤ d; exact hdd) ?_ hd key
    show _ + 14 ≤ 38 * d
    rw [catS_ok]
    omega
  · exact h.elim
def op_ldcC (nx : Nat) : Sem := fun _ k _ _ u L st s => k nx u L (aR 73 2 :: st) s
theorem ok_ldcC {idx : Nat} (hw : Cond.classLink own idx "[Ljava/lang/Object;" ∈ TB) (hd : decode cc pc = .ok (.ldc idx, 2)) (hn : pc + 2 = nx) : Snd own cc nL d U ret pc (op_ldcC nx) := by
  intro g p l e R s m args below meth c9 w0 hC ad K N X Q hQ k hk u L st s0 h
  subst hn
  intro H locs ls hP hS hl
  have key := hk _ _ _ _ _ h H locs ls hP hS hl
  rw [List.map_cons, show cv ad (aR 73 2) = .ref (g.2.1 73002) from congrArg Value.ref (gp_const hP 2 (by decide))] at key
  exact va_ldcM hC.1.1 hC.1.2.1 hC.1.2.2.2.1 (hC.1.2.2.2.2 _ (List.mem_cons_of_mem _ hw)) hC.2.1.2.2.2.2.2.2.2.2.2.2.2.2.2.2.2.2 hd key
/-- a row made for a list -/
def mk59 (s : Sg) (a n : Nat) : Sg := stC (stC (stC s 16 a) 15 0) 14 n
def no59 : List AV → Bool
  | [] => true
  | .inl (.inr (t, _)) :: r => !(Nat.beq t 59) && no59 r
  | .inl (.inl _) :: r => no59 r
  | .inr _ :: r => no59 r
theorem no59_ok {ad : Nat → Nat → Nat} {a q : Nat} : ∀ {st : List AV}, no59 st = true → st.map (cv ad) = st.map (cv (adN ad 59 a q))
  | [], _ => rfl
  | .inl (.inr (t, i)) :: r, h => by
    unfold no59 at h
    obtain ⟨h1, h2⟩ := Bool.and_eq_true_iff.mp h
    have ih := no59_ok (ad := ad) (a := a) (q := q) h2
    rw [List.map_cons, List.map_cons, ih]
    show Value.ref (ad t i) :: _ = Value.ref (adN ad 59 a q t i) :: _
    rw [adN_old (fun hc => by rw [hc.1] at h1; cases h1)]
  | .inl (.inl _) :: r, h => by
    have ih := no59_ok (ad := ad) (a := a) (q := q) (st := r) h
    rw [List.map_cons, List.map_cons, ih]
    rfl
  | .inr _ :: r, h => by
    have ih := no59_ok (ad := ad) (a := a) (q := q) (st := r) h
    rw [List.map_cons, List.map_cons, ih]
    rfl
theorem no59_L {ad : Nat → Nat → Nat} {a q : Nat} : ∀ {L : LC}, no59 (L.map (fun z => .inl z.2)) = true → L.map (fun z => (z.1, cL (adN ad 59 a q) z.2)) = L.map (fun z => (z.1, cL ad z.2))
  | [], _ => rfl
  | (j, .inr (t, i)) :: r, h => by
    rw [List.map_cons] at h
    unfold no59 at h
    obtain ⟨h1, h2⟩ := Bool.and_eq_true_iff.mp h
    have ih := no59_L (ad := ad) (a := a) (q := q) h2
    rw [List.map_cons, List.map_cons, ih]
    show (j, Value.ref (adN ad 59 a q t i)) :: _ = (j, Value.ref (ad t i)) :: _
    rw [adN_old (fun hc => by rw [hc.1] at h1; cases h1)]
  | (j, .inl x) :: r, h => by
    have ih := no59_L (ad := ad) (a := a) (q := q) (L := r) h
    rw [List.map_cons, List.map_cons, ih]
    rfl
def op_anew (nx : Nat) : Sem := fun U k _ _ u L st s => match st, getL L 0 with
  | .inl (.inl v) :: st', some (.inr (_, a)) => a < 3 ∧ s.1 14 = 0 ∧ (¬ v < 0) ∧ 0 < v.toNatClampNeg ∧ v.toNatClampNeg ≤ 48 ∧ u + 2 ≤ U ∧ no59 st' = true ∧ no59 (L.map (fun z => .inl z.2)) = true ∧ k nx (u + 2) L (aR 59 a :: st') (mk59 s a v.toNatClampNeg)
  | _, _ => False
theorem mk59_1 {s : Sg} {a n c : Nat} (h : ¬ c = 14) (h1 : ¬ c = 15) (h2 : ¬ c = 16) : (mk59 s a n).1 c = s.1 c := by
  unfold mk59
  rw [stC_ne h, stC_ne h1, stC_ne h2]
theorem mk59_14 {s : Sg} {a n : Nat} : (mk59 s a n).1 14 = n := stC_eq
theorem mk59_15 {s : Sg} {a n : Nat} : (mk59 s a n).1 15 = 0 := rfl
theorem mk59_16 {s : Sg} {a n : Nat} : (mk59 s a n).1 16 = a := rfl
theorem ok_anew {idx : Nat} (hw : Cond.classLink own idx "java/lang/Object" ∈ TB) (hd : decode cc pc = .ok (.anewarray idx, 3)) (hn : pc + 3 = nx) : GSnd own cc nL d U ret pc (op_anew nx) := by
  intro g p l e R s m args below meth c w0 hC ad0 K0 N X Q hQ k hk u L st s1 h ad K hE
  subst hn
  intro H locs ls hP hS hl
  unfold op_anew at h
  split at h
  · rename_i v st' x9 a hg
    obtain ⟨ha3, h14, hv0, hvp, hv48, hu, hst, hL, h⟩ := h
    have hR := hC.2.2.2.2.1
    have ht : ∀ w ∈ TB, w.before args s = true := fun w hw => hC.1.2.2.2.2 w (List.mem_cons_of_mem _ hw)
    subst hR
    have hS9 : va_S (gA g) H H locs := ⟨Nat.le_refl _, fun _ _ _ => rfl, hS.2.2⟩
    have hum : u * 24 + 2 * 24 ≤ U * 24 := by rw [← Nat.add_mul]; exact Nat.mul_le_mul_right _ hu
    have hnew : ¬ Lv s1 59 a := fun hL9 => by have := hL9.2; omega
    refine va_newq (N' := v.toNatClampNeg) (H0 := H) hC.1.1 hC.1.2.1 hC.1.2.2.2.1 (ht _ hw) hC.2.1.2.2.2.2.2.2.2.2.2.2.2.2.2.2.1 hC.2.1.1 hP.1 hP.2.1 hS9 (fun q hq => Nat.le_trans hP.2.2.2.1 hq) hv0 rfl (by omega) ?_ ?_ hd ?_
    · show u * 4 + 1 ≤ U * 4
      omega
    · show u * 24 + v.toNatClampNeg ≤ U * 24
      omega
    · intro q cA H1 hK1 hP1 hD1 hS1
      have ec : cA = g.2.1 2 := GS_ty hC.2.1 (k := 2) rfl hK1
      subst ec
      have hS2 : va_S (gA g) s.heap H1 locs := ⟨Nat.le_trans hS.1 hS1.1, fun z h1 h2 => (hS1.2.1 z (Nat.lt_of_lt_of_le h1 hS.1) h2).trans (hS.2.1 z h1 h2), hS1.2.2⟩
      have hLv : ∀ x y, Lv (mk59 s1 a v.toNatClampNeg) x y ↔ (Lv s1 x y ∨ (x = 59 ∧ y = a)) := by
        intro x y
        by_cases hx : x = 59
        · subst hx
          constructor
          · exact fun h9 => Or.inr ⟨rfl, h9.1⟩
          · rintro (h9 | h9)
            · exact absurd h9.2 (by omega)
            · exact ⟨h9.2, hvp⟩
        · rw [Lv_eq (fun c hc => mk59_1 (by omega) (by omega) (by omega)) (mk59_1 (by decide) (by decide) (by decide)) (mk59_1 (by decide) (by decide) (by decide)) hx]
          exact ⟨Or.inl, fun h9 => h9.elim id fun h9 => absurd h9.1 hx⟩
      have hGP : GP g (adN ad 59 a q) (K ++ [(59, a)]) (mk59 s1 a v.toNatClampNeg) H1 := GP_new (by decide) hP hnew hLv (e := .inl (g.2.1 2, v.toNatClampNeg, .inr (.inr (.inr (.inr (fun _ => none))))))
        (by
          show Sum.inl (g.2.1 2, v.toNatClampNeg, _) = _
          congr 4)
        (fun x y hxy => ent_eq (fun _ => rfl) (fun _ => rfl) (fun hx => by subst hx; have : y < 3 := hxy; exact mk59_1 (by omega) (by omega) (by omega)) (fun hx => by subst hx; have : y < 3 := hxy.1; exact ⟨mk59_1 (by omega) (by omega) (by omega), by rw [mk59_1 (by omega) (by omega) (by omega), mk59_1 (by omega) (by omega) (by omega)]⟩)
          ⟨fun _ => mk59_1 (by decide) (by decide) (by decide), fun _ => mk59_1 (by decide) (by decide) (by decide)⟩ (fun hx => by subst hx; have := hxy.2; omega) (fun t i hR => adN_old fun hc => (RF_no hR (fun hx => by subst hx; exact hxy.1) (fun hx => by subst hx; have := hxy.2; omega)).2.2.1 hc.1)) hP1 hD1 hS1.1
        (fun j hj hz => by
          rw [mk59_1 (by omega) (by omega) (by omega)] at hz
          rw [adN_old (fun h => by have := h.1; omega)]
          exact hP.2.2.2.2.1 j hj hz)
      have key := hk _ _ _ _ _ h _ _ (hE.tr (Ex_new (q := q) hP hnew)) H1 locs ls hGP hS2 (by rw [no59_L hL]; exact hl)
      rw [List.map_cons, ← no59_ok (ad := ad) (a := a) (q := q) hst, show cv (adN ad 59 a q) (aR 59 a) = .ref q from congrArg Value.ref adN_new] at key
      refine W.widen (k := (u + 2) * cU) (n := (u + 2) * sU) ?_ ?_ key
      · show u * 4 + 1 ≤ (u + 2) * 4
        omega
      · show u * 24 + v.toNatClampNeg ≤ (u + 2) * 24
        omega
  · exact h.elim
end Gops

