/-! the second machine's things -/
theorem RP_st {g : GPm} {W0 w : va_W} {H1 : Heap} {j : Nat} {x y : Nat × va_E} (hj : w[j]? = some x) (h1 : va_P g.1 vwCl ((W0 ++ w).set (W0.length + j) y) H1) (h2 : va_D (gA g) ((W0 ++ w).set (W0.length + j) y)) : RP g W0 (w.set j y) H1 := by
  have hl : j < w.length := (List.getElem?_eq_some_iff.mp hj).1
  rw [asx] at h1 h2
  have e : (W0 ++ w.set j y)[W0.length + j]? = some y := apx (by rw [List.getElem?_set_self hl])
  have h5 := h2.2 _ _ e
  exact ⟨h1, h2, Nat.le_of_lt (Nat.lt_of_le_of_lt h5 ((h1 _ _ e).lt))⟩
theorem RP_pu {g : GPm} {W0 w : va_W} {H1 : Heap} {x : Nat × va_E} (h1 : va_P g.1 vwCl (W0 ++ w ++ [x]) H1) (h2 : va_D (gA g) (W0 ++ w ++ [x])) (hz : g.2.2 ≤ H1.size) : RP g W0 (w ++ [x]) H1 := by
  rw [List.append_assoc] at h1 h2
  exact ⟨h1, h2, hz⟩
section RHps
variable {ini : Bool} {own : String} {cc : ByteArray} {nL d U : Nat} {ret : Option FieldType} {pc nx : Nat}
def rp_gf (ci f nx : Nat) : RSem := fun _ _ k _ u L st w => match st with
  | .inl (.inr (_, a)) :: st' => ∃ (j : Nat) (fs : List Value), w[j]? = some (a, .inr (ci, fs)) ∧ (match fs[f]? with
    | some (.int x) => k nx u L (aI x :: st') w
    | some (.ref b) => k nx u L (aA b :: st') w
    | _ => False)
  | _ => False
theorem rk_getfield {C : String} {T : u_T} {n ci f idx : Nat} (hc : vwCl[ci]? = some (C, T, n)) (hin : ∀ w ∈ u_ws C T n, w ∈ TB) (hf : f < n) (hw : Cond.fieldLink own idx (T f).1 (T f).2.1 (T f).2.2.1 ∈ TB)
    (hd : decode cc pc = .ok (.getfield idx, 3)) (hn : pc + 3 = nx) : RSnd ini own cc nL d U ret pc (rp_gf ci f nx) := by
  intro g p l e R s m args below meth c w0 hI hC W0 N Q hQ k hk u L st w h
  subst hn
  intro H locs ls hP hS hl
  unfold rp_gf at h
  split at h
  · rename_i t a st'
    obtain ⟨j, fs, hj, h⟩ := h
    have ha := apx (W0 := W0) hj
    split at h
    · rename_i x hx
      exact va_get (D := g.1) (ci := ci) (v := .int x) (Ts := w0 :: TB) hC.1.1 hC.1.2.1 hC.1.2.2.2.2 (fun w hw => List.mem_cons_of_mem _ (hin w hw)) hC.1.2.2.2.1 hC.2.1.1 hP.1 _ ha hc f hf (hC.1.2.2.2.2 _ (List.mem_cons_of_mem _ hw)) (fun _ q => q) hx hd (hk _ _ _ _ _ h H locs ls hP hS hl)
    · rename_i b hx
      exact va_get (D := g.1) (ci := ci) (v := .ref b) (Ts := w0 :: TB) hC.1.1 hC.1.2.1 hC.1.2.2.2.2 (fun w hw => List.mem_cons_of_mem _ (hin w hw)) hC.1.2.2.2.1 hC.2.1.1 hP.1 _ ha hc f hf (hC.1.2.2.2.2 _ (List.mem_cons_of_mem _ hw)) (fun _ q => q) hx hd (hk _ _ _ _ _ h H locs ls hP hS hl)
    · exact h.elim
  · exact h.elim
def rp_pf (ci f : Nat) (ty : FieldType) (nx : Nat) : RSem := fun _ _ k _ u L st w => match st with
  | .inl v :: .inl (.inr (_, a)) :: st' => narrow ty (cL iA v) = cL iA v ∧ fits ty (cL iA v) = true ∧ ∃ (j : Nat) (fs : List Value), w[j]? = some (a, .inr (ci, fs)) ∧ f < fs.length ∧ k nx u L st' (w.set j (a, .inr (ci, fs.set f (cL iA v))))
  | _ => False
theorem rk_putfield {C : String} {T : u_T} {n ci f idx : Nat} (ty0 : Nat → FieldType) (ty : FieldType) (hc : vwCl[ci]? = some (C, T, n)) (hin : ∀ w ∈ u_ws C T n, w ∈ TB) (hty : ∀ k, k < n → parseFieldDescriptor (T k).2.2.1 = some (ty0 k)) (hnm : ∀ a, a < n → ∀ b, b < n → a ≠ b → (T a).2.1 ≠ (T b).2.1)
    (hf : f < n) (hfin : (T f).2.2.2 = false) (hw : Cond.fieldLink own idx (T f).1 (T f).2.1 (T f).2.2.1 ∈ TB) (hp : parseFieldDescriptor (T f).2.2.1 = some ty)
    (hd : decode cc pc = .ok (.putfield idx, 3)) (hn : pc + 3 = nx) : RSnd ini own cc nL d U ret pc (rp_pf ci f ty nx) := by
  intro g p l e R s m args below meth c w0 hI hC W0 N Q hQ k hk u L st w h
  subst hn
  intro H locs ls hP hS hl
  unfold rp_pf at h
  split at h
  · rename_i v t a st'
    obtain ⟨h1, h2, j, fs, hj, hl9, h⟩ := h
    have ha := apx (W0 := W0) hj
    refine va_put (D := g.1) (ci := ci) (v := cL iA v) (ty := ty) (Ts := w0 :: TB) hC.1.1 hC.1.2.1 hC.1.2.2.2.2 (fun w hw => List.mem_cons_of_mem _ (hin w hw)) ty0 hty hnm hC.1.2.2.2.1 hC.2.1.1 hP.1 hP.2.1 hS _ ha hc f hf (hC.1.2.2.2.2 _ (List.mem_cons_of_mem _ hw)) (fun _ q => q) hfin hp h1 h2 hl9 hd (fun H1 locs1 hP1 hD1 hS1 => ?_)
    exact hk _ _ _ _ _ h H1 locs1 ls (RP_st hj hP1 hD1) hS1 hl
  · exact h.elim
theorem rk_putfieldF {C : String} {T : u_T} {n ci f idx : Nat} (ty0 : Nat → FieldType) (ty : FieldType) (hc : vwCl[ci]? = some (C, T, n)) (hin : ∀ w ∈ u_ws C T n, w ∈ TB) (hty : ∀ k, k < n → parseFieldDescriptor (T k).2.2.1 = some (ty0 k)) (hnm : ∀ a, a < n → ∀ b, b < n → a ≠ b → (T a).2.1 ≠ (T b).2.1)
    (hf : f < n) (hfin : (T f).2.2.2 = true) (hdecl : (T f).1 = own) (hw : Cond.fieldLink own idx (T f).1 (T f).2.1 (T f).2.2.1 ∈ TB) (hp : parseFieldDescriptor (T f).2.2.1 = some ty)
    (hd : decode cc pc = .ok (.putfield idx, 3)) (hn : pc + 3 = nx) : RSnd true own cc nL d U ret pc (rp_pf ci f ty nx) := by
  intro g p l e R s m args below meth c w0 hI hC W0 N Q hQ k hk u L st w h
  subst hn
  intro H locs ls hP hS hl
  unfold rp_pf at h
  split at h
  · rename_i v t a st'
    obtain ⟨h1, h2, j, fs, hj, hl9, h⟩ := h
    have ha := apx (W0 := W0) hj
    refine va_putF (D := g.1) (ci := ci) (v := cL iA v) (ty := ty) (Ts := w0 :: TB) hC.1.1 hC.1.2.1 hC.1.2.2.2.2 (fun w hw => List.mem_cons_of_mem _ (hin w hw)) ty0 hty hnm hC.1.2.2.2.1 hC.2.1.1 hP.1 hP.2.1 hS _ ha hc f hf (hC.1.2.2.2.2 _ (List.mem_cons_of_mem _ hw)) (fun _ q => q) hfin (hI rfl) hdecl hp h1 h2 hl9 hd (fun H1 locs1 hP1 hD1 hS1 => ?_)
    exact hk _ _ _ _ _ h H1 locs1 ls (RP_st hj hP1 hD1) hS1 hl
  · exact h.elim
def rp_new (ci c : Nat) (fs : List Value) (nx : Nat) : RSem := fun _ U k _ u L st w => u + c ≤ U ∧ ∀ q : Nat, k nx (u + c) L (aA q :: st) (w ++ [(q, .inr (ci, fs))])
theorem rk_new {C : String} {T : u_T} {n ci cu idx : Nat} {fs : List Value} (ty : Nat → FieldType) (hc : vwCl[ci]? = some (C, T, n)) (hin : ∀ w ∈ u_ws C T n, w ∈ TB) (hty : ∀ k, k < n → parseFieldDescriptor (T k).2.2.1 = some (ty k)) (hfs : ∀ j, j < n → defaultValue (ty j) = vp_V fs j)
    (h1 : Cond.classLink own idx C ∈ TB) (h2 : Cond.instantiable C n ∈ TB) (h3 : Cond.initialized C ∈ TB) (hc1 : 1 ≤ cu) (hcn : n ≤ cu * 24) (hd : decode cc pc = .ok (.new idx, 3)) (hn : pc + 3 = nx) : RSnd ini own cc nL d U ret pc (rp_new ci cu fs nx) := by
  intro g p l e R s m args below meth c w0 hI hC W0 N Q hQ k hk u L st w h
  subst hn
  intro H locs ls hP hS hl
  obtain ⟨hu, h⟩ := h
  have hR := hC.2.2.2.2.1
  have ht : ∀ w ∈ TB, w.before args s = true := fun w hw => hC.1.2.2.2.2 w (List.mem_cons_of_mem _ hw)
  subst hR
  have hS9 : va_S (gA g) H H locs := ⟨Nat.le_refl _, fun _ _ _ => rfl, hS.2.2⟩
  have hum : u * 24 + cu * 24 ≤ U * 24 := by rw [← Nat.add_mul]; exact Nat.mul_le_mul_right _ hu
  refine va_new (T := T) (N := n) (ci := ci) (H0 := H) (fs := fs) hC.1.1 hC.1.2.1 ht hin ty hty hC.1.2.2.2.1 (ht _ h1) (ht _ h2) (ht _ h3) hC.2.1.1 hP.1 hP.2.1 hS9 (fun q hq => Nat.le_trans hP.2.2 hq) hc hfs ?_ ?_ hd ?_
  · show u * 4 + 1 ≤ U * 4
    omega
  · show u * 24 + n ≤ U * 24
    omega
  · intro q H1 hP1 hD1 hS1
    have hS2 : va_S (gA g) s.heap H1 locs := ⟨Nat.le_trans hS.1 hS1.1, fun z h1 h2 => (hS1.2.1 z (Nat.lt_of_lt_of_le h1 hS.1) h2).trans (hS.2.1 z h1 h2), hS1.2.2⟩
    refine W.widen (k := (u + cu) * cU) (n := (u + cu) * sU) ?_ ?_ (hk _ _ _ _ _ (h q) H1 locs ls (RP_pu hP1 hD1 (Nat.le_trans hP.2.2 hS1.1)) hS2 hl)
    · show u * 4 + 1 ≤ (u + cu) * 4
      omega
    · show u * 24 + n ≤ (u + cu) * 24
      omega
def rp_newa (kd n c nx : Nat) : RSem := fun g U k _ u L st w => match st with
  | .inl (.inl v) :: st' => (¬ v < 0) ∧ v.toNatClampNeg = n ∧ u + c ≤ U ∧ ∀ q : Nat, k nx (u + c) L (aA q :: st') (w ++ [(q, .inl (g.2.1 kd, n, .inl (fun _ => 0)))])
  | _ => False
theorem rk_newarray {atype : ArrayType} {ty : FieldType} {kd n cu : Nat} (hty : newarray.typeOf atype = ty) (hkd : ∀ g : GPm, (gtys g)[kd]? = some (g.2.1 kd, ty)) (hz : ∀ cA : ClassId, vp_cell cA (n, .inl (fun _ => 0)) = arrV cA n (fun _ => defaultValue ty)) (harr : Cond.arrayClass ty ∈ TB)
    (hb : n * componentBytes ty ≤ 536870912) (hc1 : 1 ≤ cu) (hcn : n ≤ cu * 24) (hd : decode cc pc = .ok (.newarray atype, 2)) (hn : pc + 2 = nx) : RSnd ini own cc nL d U ret pc (rp_newa kd n cu nx) := by
  intro g p l e R s m args below meth c w0 hI hC W0 N Q hQ k hk u L st w h
  subst hn
  intro H locs ls hP hS hl
  unfold rp_newa at h
  split at h
  · rename_i v st'
    obtain ⟨hv0, hvn, hu, h⟩ := h
    have hR := hC.2.2.2.2.1
    have ht : ∀ w ∈ TB, w.before args s = true := fun w hw => hC.1.2.2.2.2 w (List.mem_cons_of_mem _ hw)
    subst hR
    have hum : u * 24 + cu * 24 ≤ U * 24 := by rw [← Nat.add_mul]; exact Nat.mul_le_mul_right _ hu
    have hS9 : va_S (gA g) H H locs := ⟨Nat.le_refl _, fun _ _ _ => rfl, hS.2.2⟩
    refine va_newa (N' := n) (a0 := (n, .inl (fun _ => 0))) (H0 := H) hC.1.1 hC.1.2.1 (by rw [hty]; exact ht _ harr) hty hC.2.1.1 hP.1 hP.2.1 hS9 (fun q hq => Nat.le_trans hP.2.2 hq) hz hv0 hvn hb ?_ ?_ hd ?_
    · show u * 4 + 1 ≤ U * 4
      omega
    · show u * 24 + n ≤ U * 24
      omega
    · intro q cA H1 hK1 hP1 hD1 hS1
      have ec : cA = g.2.1 kd := GS_ty hC.2.1 (hkd g) hK1
      subst ec
      have hS2 : va_S (gA g) s.heap H1 locs := ⟨Nat.le_trans hS.1 hS1.1, fun z h1 h2 => (hS1.2.1 z (Nat.lt_of_lt_of_le h1 hS.1) h2).trans (hS.2.1 z h1 h2), hS1.2.2⟩
      refine W.widen (k := (u + cu) * cU) (n := (u + cu) * sU) ?_ ?_ (hk _ _ _ _ _ (h q) H1 locs ls (RP_pu hP1 hD1 (Nat.le_trans hP.2.2 hS1.1)) hS2 hl)
      · show u * 4 + 1 ≤ (u + cu) * 4
        omega
      · show u * 24 + n ≤ (u + cu) * 24
        omega
  · exact h.elim
/-- a row of rows -/
def rp_mna (n k9 c nx : Nat) : RSem := fun g U k _ u L st w => match st with
  | .inl (.inl b) :: .inl (.inl a) :: st' => (¬ a < 0) ∧ (¬ b < 0) ∧ a.toNatClampNeg = n ∧ b.toNatClampNeg = k9 ∧ u + c ≤ U ∧ ∀ (q : Nat) (r : Nat → Nat), k nx (u + c) L (aA q :: st') (w ++ ((q, .inl (g.2.1 3, n, .inr (.inr (.inr (.inr (fun i => if i < n then some (r i) else none)))))) :: (List.range n).map (fun i => (r i, .inl (g.2.1 0, k9, .inl (fun _ => 0))))))
  | _ => False
theorem rk_mna {n k9 cu idx : Nat} (hl9 : Cond.classLink own idx "[[I" ∈ TB) (hov : ∀ (g : GPm) (U : State), GS g U → va_AOA .int U) (harr : Cond.arrayClass .int ∈ TB) (hb1 : n * 4 ≤ 536870912) (hb2 : k9 * 4 ≤ 536870912) (hb3 : k9 ≤ 536870912) (hc1 : 1 + n ≤ cu * 4) (hcn : n + n * k9 ≤ cu * 24)
    (hd : decode cc pc = .ok (.multianewarray idx 2, 4)) (hn : pc + 4 = nx) : RSnd ini own cc nL d U ret pc (rp_mna n k9 cu nx) := by
  intro g p l e R s m args below meth c w0 hI hC W0 N Q hQ k hk u L st w h
  subst hn
  intro H locs ls hP hS hl
  unfold rp_mna at h
  split at h
  · rename_i b a st'
    obtain ⟨ha0, hb0, han, hbn, hu, h⟩ := h
    have hR := hC.2.2.2.2.1
    have ht : ∀ w ∈ TB, w.before args s = true := fun w hw => hC.1.2.2.2.2 w (List.mem_cons_of_mem _ hw)
    subst hR
    have hum : u * 24 + cu * 24 ≤ U * 24 := by rw [← Nat.add_mul]; exact Nat.mul_le_mul_right _ hu
    have hS9 : va_S (gA g) H H locs := ⟨Nat.le_refl _, fun _ _ _ => rfl, hS.2.2⟩
    have hcy : s.vm.findClass (FieldType.array .int).toString = some (g.2.1 0) := (hC.2.1.1.2 0 _ rfl).2
    refine va_mna (X := W0 ++ w) (L := []) (f := fun _ => .inl (0, 0, .inl (fun _ => 0))) (ty := .int) (cy := g.2.1 0) (N' := n) (K' := k9) (z := (k9, .inl (fun _ => 0))) (H0 := H) hC.1.1 hC.1.2.1 hC.1.2.2.2.1 (ht _ hl9) (hov g s hC.2.1) (ht _ harr) hcy hC.2.1.1 (by rw [show va_pl [] _ = [] from rfl, List.append_nil]; exact hP.1) (by rw [show va_pl [] _ = [] from rfl, List.append_nil]; exact hP.2.1) hS9 (fun q hq => Nat.le_trans hP.2.2 hq) ha0 hb0 han hbn hb1 hb2 hb3 rfl rfl ?_ ?_ (fun cA => ?_) hd ?_
    · show u * 4 + (1 + n) ≤ U * 4
      omega
    · show u * 24 + (n + n * k9) ≤ U * 24
      omega
    · unfold Jvm.Free.Multi.innerC
      rw [arrV_new]
      rfl
    · intro q r cA H1 hri hrn hK1 hP1 hD1 hS1
      have ec : cA = g.2.1 3 := GS_ty hC.2.1 (k := 3) rfl hK1
      subst ec
      have hS2 : va_S (gA g) s.heap H1 locs := ⟨Nat.le_trans hS.1 hS1.1, fun z h1 h2 => (hS1.2.1 z (Nat.lt_of_lt_of_le h1 hS.1) h2).trans (hS.2.1 z h1 h2), hS1.2.2⟩
      have e1 : va_pl ([] ++ (List.range n).map r) (vr_up (fun _ => .inl (0, 0, .inl (fun _ => 0))) ((List.range n).map r) (.inl (g.2.1 0, (k9, .inl (fun _ => 0))))) = (List.range n).map (fun i => (r i, (.inl (g.2.1 0, k9, .inl (fun _ => 0)) : va_E))) := by
        rw [List.nil_append]
        unfold va_pl
        rw [List.map_map]
        refine List.map_congr_left fun i hi => ?_
        show (r i, vr_up _ _ _ (r i)) = _
        rw [vr_up_in (List.mem_map.mpr ⟨i, hi, rfl⟩)]
      rw [e1, List.append_assoc (W0 ++ w), List.append_assoc W0] at hP1 hD1
      refine W.widen (k := (u + cu) * cU) (n := (u + cu) * sU) ?_ ?_ (hk _ _ _ _ _ (h q r) H1 locs ls ⟨hP1, hD1, Nat.le_trans hP.2.2 hS1.1⟩ hS2 hl)
      · show u * 4 + 1 + n ≤ (u + cu) * 4
        omega
      · show u * 24 + n + n * k9 ≤ (u + cu) * 24
        omega
  · exact h.elim
/-- the library's empty row -/
def rp_gse (nx : Nat) : RSem := fun g _ k _ u L st w => k nx u L (aA (g.2.1 73000) :: st) w
theorem rk_gse {idx : Nat} (hw : Cond.fieldLink own idx "java/util/ArrayList" "DEFAULTCAPACITY_EMPTY_ELEMENTDATA" "[Ljava/lang/Object;" ∈ TB) (hd : decode cc pc = .ok (.getstatic idx, 3)) (hn : pc + 3 = nx) : RSnd ini own cc nL d U ret pc (rp_gse nx) := by
  intro g p l e R s m args below meth c w0 hI hC W0 N Q hQ k hk u L st w h
  subst hn
  intro H locs ls hP hS hl
  exact va_gets hC.1.1 hC.1.2.1 hC.2.1.2.2.2.2.2.1 hS hC.1.2.2.2.1 (hC.1.2.2.2.2 _ (List.mem_cons_of_mem _ hw)) (fun _ q => q) hd (hk _ _ _ _ _ h H locs ls hP hS hl)
def rp_aald (nx : Nat) : RSem := fun g _ k _ u L st w => match st with
  | .inl (.inl i) :: .inl (.inr (_, a)) :: st' => ∃ (j n : Nat) (f : Nat → Option Nat) (b : Nat), w[j]? = some (a, .inl (g.2.1 3, n, .inr (.inr (.inr (.inr f))))) ∧ Ib i n ∧ f i.toNatClampNeg = some b ∧ k nx u L (aA b :: st') w
  | _ => False
theorem rk_aaload (hd : decode cc pc = .ok (.aaload, 1)) (hn : pc + 1 = nx) : RSnd ini own cc nL d U ret pc (rp_aald nx) := by
  intro g p l e R s m args below meth c w0 hI hC W0 N Q hQ k hk u L st w h
  subst hn
  intro H locs ls hP hS hl
  unfold rp_aald at h
  split at h
  · rename_i i t a st'
    obtain ⟨j, n, f, b, hj, hin, hfb, h⟩ := h
    have hin := of_eq_true hin
    have ha := apx (W0 := W0) hj
    have hlt : i.toNatClampNeg < n := Nat.not_le.mp fun q => hin (Or.inr q)
    refine W.aald (v := .ref b) (ty := .array .int) hC.1.1 hC.1.2.1 (hP.1 _ _ ha) ((hC.2.1.1.2 3 _ rfl).1 n (fun j => va_rf (f j))) rfl (fun q => by cases q) (by show ¬ (i < 0 ∨ (arrV _ _ _).slots.size ≤ _); rw [arrV_size]; exact hin) (by show (arrV _ _ _).slots[_]? = _; rw [arrV_read _ _ hlt]; show some (va_rf (f i.toNatClampNeg)) = _; rw [hfb]; rfl) rfl rfl hd ?_
    exact hk _ _ _ _ _ h H locs ls hP hS hl
  · exact h.elim
def rp_alen (nx : Nat) : RSem := fun g _ k _ u L st w => match st with
  | .inl (.inr (_, a)) :: st' => ∃ (j n : Nat) (f : Nat → Int32), w[j]? = some (a, .inl (g.2.1 0, n, .inl f)) ∧ k nx u L (aI (nI n) :: st') w
  | _ => False
theorem rk_arraylength (hd : decode cc pc = .ok (.arraylength, 1)) (hn : pc + 1 = nx) : RSnd ini own cc nL d U ret pc (rp_alen nx) := by
  intro g p l e R s m args below meth c w0 hI hC W0 N Q hQ k hk u L st w h
  subst hn
  intro H locs ls hP hS hl
  unfold rp_alen at h
  split at h
  · rename_i t a st'
    obtain ⟨j, n, f, hj, h⟩ := h
    exact va_alen (D := g.1) hC.1.1 hC.1.2.1 hC.2.1.1 hP.1 _ 0 (apx (W0 := W0) hj) (ty := .int) rfl (v := nI n) rfl hd (hk _ _ _ _ _ h H locs ls hP hS hl)
  · exact h.elim
def rp_iast (nx : Nat) : RSem := fun g _ k _ u L st w => match st with
  | .inl (.inl v) :: .inl (.inl i) :: .inl (.inr (_, a)) :: st' => ∃ (j n : Nat) (f : Nat → Int32), w[j]? = some (a, .inl (g.2.1 0, n, .inl f)) ∧ Ib i n ∧ k nx u L st' (w.set j (a, .inl (g.2.1 0, n, .inl (upd f i.toNatClampNeg v))))
  | _ => False
theorem rk_iastore (hd : decode cc pc = .ok (.iastore, 1)) (hn : pc + 1 = nx) : RSnd ini own cc nL d U ret pc (rp_iast nx) := by
  intro g p l e R s m args below meth c w0 hI hC W0 N Q hQ k hk u L st w h
  subst hn
  intro H locs ls hP hS hl
  unfold rp_iast at h
  split at h
  · rename_i v i t a st'
    obtain ⟨j, n, f, hj, hin, h⟩ := h
    have hin := of_eq_true hin
    refine va_iast (D := g.1) hC.1.1 hC.1.2.1 hC.2.1.1 hP.1 hP.2.1 hS _ 0 (apx (W0 := W0) hj) rfl hin hd (fun H1 locs1 hP1 hD1 hS1 => ?_)
    exact hk _ _ _ _ _ h H1 locs1 ls (RP_st hj hP1 hD1) hS1 hl
  · exact h.elim
def rp_oinit (nx : Nat) : RSem := fun _ _ k _ u L st w => match st with
  | .inl (.inr (_, _)) :: st' => catS st' ≤ 8 ∧ k nx u L st' w
  | _ => False
theorem rk_oinit {idx : Nat} (h1 : Cond.methodLink own idx Lib.objectInit ∈ TB) (hdd : 1 ≤ d) (hd : decode cc pc = .ok (.invokespecial idx, 3)) (hn : pc + 3 = nx) : RSnd ini own cc nL d U ret pc (rp_oinit nx) := by
  intro g p l e R s m args below meth c w0 hI hC W0 N Q hQ k hk u L st w h
  subst hn
  intro H locs ls hP hS hl
  unfold rp_oinit at h
  split at h
  · obtain ⟨hcat, h⟩ := h
    have hR := hC.2.2.2.2.1
    have ht := hC.1.2.2.2.2
    subst hR
    refine W.objInit (g := F0 m pc ls _) hC.1.1 hC.1.2.1 (own := own) hC.1.2.2.2.1 (ht _ (List.mem_cons_of_mem _ h1)) (ht _ (List.mem_cons_of_mem _ w_oi)) (ht _ (List.mem_cons_of_mem _ w_oc)) rfl (by rw [hC.1.2.2.1]; exact hl.1) rfl hd hdd ?_ (hk _ _ _ _ _ h H locs ls hP hS hl)
    show 2 * 0 + _ + 12 ≤ 38 * d
    rw [catS_ok]
    omega
  · exact h.elim
theorem rQ_ret {g : GPm} {W0 : va_W} {N : RN} {s : State} {H : Heap} {locs : List Loc} {args : Array Value} {v : Option AV} {w : va_W} (hP : RP g W0 w H) (hS : va_S (gA g) s.heap H locs) (h : N v w) :
    ∀ t : State, t.heap = H → s.WarmedH t.vm → rQ g W0 N args s (.returned (v.map (cv iA))) t :=
  fun t ht _ => ⟨⟨v, w, rfl, h, by rw [ht]; exact hP⟩, hS.F ht⟩
def rp_vret : RSem := fun _ U _ N u _ st w => match st with
  | [] => u ≤ U ∧ N none w
  | _ => False
theorem rk_vreturn (hr : ret = none) (hd : decode cc pc = .ok (.return_, 1)) : RSnd ini own cc nL d U ret pc rp_vret := by
  intro g p l e R s m args below meth c w0 hI hC W0 N Q hQ k hk u L st w h
  intro H locs ls hP hS hl
  unfold rp_vret at h
  split at h
  · refine W.mono hQ (W.widen (Nat.mul_le_mul_right _ h.1) (Nat.mul_le_mul_right _ h.1) (vx_ret ?_))
    exact W.vret hC.1.1 hC.1.2.1 (by rw [hC.2.2.2.1, hr]) (rQ_ret (v := none) hP hS h.2) hS.2.2 hd hC.2.2.1
  · exact h.elim
/-- what comes back from a call -/
theorem run_okR {g : GPm} {p : Program} {l : Launch} {e : Env} {R : Room} {s : State} {m : MethodId} {args : Array Value} {below : List Frame} {meth : Method} {c : Code} {W1 : va_W} {N' : RN} {Q : State → Prop}
    {H : Heap} {locs : List Loc} {u w9 : Nat} {ls : Array Slot} {st0 rest : List Value} {a : Array Value}
    (hr : vx_Run p l e R s m args below meth c H locs (u * cU) (u * sU) (w9 * cU) (w9 * sU) (F0 m pc ls st0) rest (rQ g W1 N' a) rX (gA g)) (hS : va_S (gA g) s.heap H locs)
    (kk : ∀ (v : Option AV) (w' : va_W) (H1 : Heap) (locs1 : List Loc), N' v w' → RP g W1 w' H1 → va_S (gA g) s.heap H1 locs1 → H.size ≤ H1.size → W p l e R s m args below meth c H1 locs1 ((u + w9) * cU) ((u + w9) * sU) Q (F0 m (pc + 3) ls ((v.map (cv iA)).toList ++ rest))) :
    W p l e R s m args below meth c H locs (u * cU) (u * sU) Q (F0 m pc ls st0) := by
  intro T hT X0
  rcases hr T hT X0 with ⟨v, st₀, t, T', L, h0, X', hL, e1, e2, ⟨⟨r, s', hv, hn, hgp⟩, hF⟩, st⟩ | ⟨q, st₀, t, T', L, E, ce, h0, X', hL, e1, e2, hx, hce, hcv, hcl, st⟩
  · cases hv
    obtain ⟨k1, k2, k3⟩ := vx_keep h0 e1 hS (fun _ _ z => z) (fun _ z => z) hL hF
    have hz : H.size ≤ T'.heap.size := by rw [e1, ← h0]; exact hF.1
    have kw := kk r s' T'.heap (locs ++ L) hn (by rw [e1]; exact hgp) k3 hz
    rw [Nat.add_mul, Nat.add_mul] at kw
    obtain ⟨t2, a1, b1⟩ := kw T' rfl X'
    exact ⟨t2, st t2 a1, b1⟩
  · exact hx.elim
/-- a call: h of the things before those that it sees -/
def rp_call (sp : RSpc) (n w9 nx : Nat) : RSem := fun g U k _ u L st w => popK n [] st (fun as st' => u + w9 ≤ U ∧ catS st' ≤ 8 ∧ ∃ h : Nat, sp g as (w.drop h) (fun r w' => match r with
  | some v => k nx (u + w9) L (v :: st') (w.take h ++ w')
  | none => k nx (u + w9) L st' (w.take h ++ w')))
theorem rk_invokestatic {y : MethodName} {bytes : ByteArray} {nL' d' w9 n idx : Nat} {ret' : Option FieldType} {sp : RSpc} (hM : RMet y bytes nL' ret' d' w9 sp)
    (h1 : Cond.methodLink own idx y ∈ TB) (h2 : Cond.static y ∈ TB) (h3 : Cond.initialized y.cls ∈ TB) (h4 : Cond.code y bytes nL' ret' ∈ TB)
    (hy : y.cls ≠ "java/lang/invoke/MethodHandle" ∧ y.cls ≠ "java/lang/invoke/VarHandle" ∧ (parseMethodDescriptor y.desc).map (fun d => d.parameters.length) = some n) (hdd : d' + 1 ≤ d) (hl' : nL' ≤ 19)
    (hd : decode cc pc = .ok (.invokestatic idx, 3)) (hn : pc + 3 = nx) : RSnd ini own cc nL d U ret pc (rp_call sp n w9 nx) := by
  intro g p l e R s m args below meth c w0 hI hC W0 N Q hQ k hk u L st w h
  subst hn
  intro H locs ls hP hS hl
  obtain ⟨as, st', ⟨hu, hcat, hh, hsp⟩, e1, e2⟩ := popK_ok h
  rw [List.append_nil] at hsp
  obtain ⟨hF, hGS, hlk, hret, hR, hl0, htab⟩ := hC
  subst hR
  have hP' : RP g (W0 ++ w.take hh) (w.drop hh) H := by
    unfold RP
    rw [List.append_assoc, List.take_append_drop]
    exact hP
  have hG : GoodIn (w0 :: TB) (va_wsS own idx y (wsM y bytes nL' ret')) := TB_in (by
    intro w hw
    simp only [va_wsS, wsM, List.cons_append, List.nil_append, List.mem_cons] at hw
    rcases hw with rfl | rfl | rfl | rfl | hw
    · exact h1
    · exact h2
    · exact h3
    · exact h4
    · exact hw)
  refine run_okR (vx_runS (As := as.map (cv iA)) (rest := st'.map (cv iA)) hF (hM l hl0 g (W0 ++ w.take hh) as _ _ hsp) (va_cwS n hF.2.2.2.2 hG rfl rfl rfl hy (rm_fit hdd hl'))
    ⟨RP_blind, fun U9 hU hW => ⟨rfl, GS_moved hGS hW (locs := locs) (by rw [hU]; exact hS), by rw [hU]; exact hP'⟩⟩ rfl (by rw [List.length_map]; exact e2) hl.1 ?_ (lv_room (by rw [catS_ok]; exact hcat)) hd
    ⟨by show u * cU + w9 * cU ≤ U * cU; rw [← Nat.add_mul]; exact Nat.mul_le_mul_right _ hu, by show u * sU + w9 * sU ≤ U * sU; rw [← Nat.add_mul]; exact Nat.mul_le_mul_right _ hu⟩) hS ?_
  · show st.map (cv iA) = (as.map (cv iA)).reverse ++ st'.map (cv iA)
    rw [e1, List.map_append, List.map_reverse]
  · intro v w' H1 locs1 hN hP1 hS1 hz
    have hP2 : RP g W0 (w.take hh ++ w') H1 := by
      unfold RP at hP1 ⊢
      rw [List.append_assoc] at hP1
      exact hP1
    cases v with
    | none => exact hk _ _ _ _ _ hN H1 locs1 ls hP2 hS1 hl
    | some v => exact hk _ _ _ _ _ hN H1 locs1 ls hP2 hS1 hl
/-- .. of a constructor: the object's own reference among the n arguments -/
def rp_callI (sp : RSpc) (n w9 nx : Nat) : RSem := fun g U k _ u L st w => popK n [] st (fun as st' => match as with
  | .inl (.inr _) :: _ => u + w9 ≤ U ∧ catS st' ≤ 8 ∧ ∃ h : Nat, sp g as (w.drop h) (fun r w' => r = none ∧ k nx (u + w9) L st' (w.take h ++ w'))
  | _ => False)
theorem rk_invokeinit {y : MethodName} {bytes : ByteArray} {nL' d' w9 n idx : Nat} {sp : RSpc} (hM : RMet y bytes nL' none d' w9 sp)
    (h1 : Cond.methodLink own idx y ∈ TB) (h2 : Cond.instanceMethod y ∈ TB) (h3 : Cond.initialized y.cls ∈ TB) (h4 : Cond.code y bytes nL' none ∈ TB) (hy1 : y.name = "<init>")
    (hy : y.cls ≠ "java/lang/invoke/MethodHandle" ∧ y.cls ≠ "java/lang/invoke/VarHandle" ∧ (parseMethodDescriptor y.desc).map (fun d => d.parameters.length) = some n) (hdd : d' + 1 ≤ d) (hl' : nL' ≤ 19)
    (hd : decode cc pc = .ok (.invokespecial idx, 3)) (hn : pc + 3 = nx) : RSnd ini own cc nL d U ret pc (rp_callI sp (n + 1) w9 nx) := by
  intro g p l e R s m args below meth c w0 hI hC W0 N Q hQ k hk u L st w h
  subst hn
  intro H locs ls hP hS hl
  obtain ⟨as, st', h, e1, e2⟩ := popK_ok h
  rw [List.append_nil] at h
  split at h
  · rename_i r tl
    obtain ⟨hu, hcat, hh, hsp⟩ := h
    obtain ⟨hF, hGS, hlk, hret, hR, hl0, htab⟩ := hC
    subst hR
    have hP' : RP g (W0 ++ w.take hh) (w.drop hh) H := by
      unfold RP
      rw [List.append_assoc, List.take_append_drop]
      exact hP
    have ht : ∀ w ∈ TB, w.before args s = true := fun w hw => hF.2.2.2.2 w (List.mem_cons_of_mem _ hw)
    have hG : GoodIn (w0 :: TB) (wsM y bytes nL' none) := TB_in (by
      intro w hw
      simp only [wsM, List.mem_cons] at hw
      rcases hw with rfl | hw
      · exact h4
      · exact hw)
    refine run_okR (vx_runI (b := (iA r.1 r.2)) (As := tl.map (cv iA)) (rest := st'.map (cv iA)) hF (hM l hl0 g (W0 ++ w.take hh) _ _ _ hsp) (cwI n hF.2.2.2.2 hG rfl rfl rfl (ht _ h3) (ht _ h1) (ht _ h2) hy1 hy (rm_fit hdd hl'))
      ⟨RP_blind, fun U9 hU hW => ⟨rfl, GS_moved hGS hW (locs := locs) (by rw [hU]; exact hS), by rw [hU]; exact hP'⟩⟩ rfl (by rw [List.length_map]; simpa using e2) hl.1 ?_ (lv_room (by rw [catS_ok]; exact hcat)) hd
      ⟨by show u * cU + w9 * cU ≤ U * cU; rw [← Nat.add_mul]; exact Nat.mul_le_mul_right _ hu, by show u * sU + w9 * sU ≤ U * sU; rw [← Nat.add_mul]; exact Nat.mul_le_mul_right _ hu⟩) hS ?_
    · show st.map (cv iA) = (tl.map (cv iA)).reverse ++ .ref (iA r.1 r.2) :: st'.map (cv iA)
      rw [e1, List.map_append, List.map_reverse]
      simp [cv, cL]
    · intro v w' H1 locs1 hN hP1 hS1 hz
      have hP2 : RP g W0 (w.take hh ++ w') H1 := by
        unfold RP at hP1 ⊢
        rw [List.append_assoc] at hP1
        exact hP1
      obtain ⟨rfl, hN⟩ := hN
      exact hk _ _ _ _ _ hN H1 locs1 ls hP2 hS1 hl
  · exact h.elim
end RHps

