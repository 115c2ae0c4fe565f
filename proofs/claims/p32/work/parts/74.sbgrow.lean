/-! builders of text: a longer row -/
def noK (T : Nat) : List AV → Bool
  | [] => true
  | .inl (.inr (t, _)) :: r => !(Nat.beq t T) && noK T r
  | .inl (.inl _) :: r => noK T r
  | .inr _ :: r => noK T r
theorem noK_ne {t T : Nat} (h : (!(Nat.beq t T)) = true) : ¬ t = T := by
  rintro rfl
  rw [Nat.beq_refl] at h
  cases h
theorem noK_ok {ad : Nat → Nat → Nat} {T a q : Nat} : ∀ {st : List AV}, noK T st = true → st.map (cv ad) = st.map (cv (adN ad T a q))
  | [], _ => rfl
  | .inl (.inr (t, i)) :: r, h => by
    unfold noK at h
    obtain ⟨h1, h2⟩ := Bool.and_eq_true_iff.mp h
    have ih := noK_ok (ad := ad) (a := a) (q := q) h2
    rw [List.map_cons, List.map_cons, ih]
    show Value.ref (ad t i) :: _ = Value.ref (adN ad T a q t i) :: _
    rw [adN_old (fun hc => noK_ne h1 hc.1)]
  | .inl (.inl _) :: r, h => by
    have ih := noK_ok (ad := ad) (a := a) (q := q) (st := r) h
    rw [List.map_cons, List.map_cons, ih]
    rfl
  | .inr _ :: r, h => by
    have ih := noK_ok (ad := ad) (a := a) (q := q) (st := r) h
    rw [List.map_cons, List.map_cons, ih]
    rfl
theorem noK_L {ad : Nat → Nat → Nat} {T a q : Nat} : ∀ {L : LC}, noK T (L.map (fun z => .inl z.2)) = true → L.map (fun z => (z.1, cL (adN ad T a q) z.2)) = L.map (fun z => (z.1, cL ad z.2))
  | [], _ => rfl
  | (j, .inr (t, i)) :: r, h => by
    rw [List.map_cons] at h
    unfold noK at h
    obtain ⟨h1, h2⟩ := Bool.and_eq_true_iff.mp h
    have ih := noK_L (ad := ad) (a := a) (q := q) h2
    rw [List.map_cons, List.map_cons, ih]
    show (j, Value.ref (adN ad T a q t i)) :: _ = (j, Value.ref (ad t i)) :: _
    rw [adN_old (fun hc => noK_ne h1 hc.1)]
  | (j, .inl x) :: r, h => by
    have ih := noK_L (ad := ad) (a := a) (q := q) (L := r) h
    rw [List.map_cons, List.map_cons, ih]
    rfl
def mk58 (s : Sg) (n : Nat) : Sg := stC (s.1, fun a b c => if a = 58 ∧ b = 0 then 0 else s.2.1 a b c, s.2.2) 17 n
theorem mk58_1 {s : Sg} {n c : Nat} (h : ¬ c = 17) : (mk58 s n).1 c = s.1 c := stC_ne h
theorem mk58_2 {s : Sg} {n a b c : Nat} (h : ¬ (a = 58 ∧ b = 0)) : (mk58 s n).2.1 a b c = s.2.1 a b c := if_neg h
def cp58 (s : Sg) (n : Nat) : Sg := (s.1, fun a b c => if a = 58 ∧ b = 0 then va_cpy (s.2.1 19 0) (s.2.1 58 0) 0 0 n c else s.2.1 a b c, s.2.2)
theorem cp58_2 {s : Sg} {n a b c : Nat} (h : ¬ (a = 58 ∧ b = 0)) : (cp58 s n).2.1 a b c = s.2.1 a b c := if_neg h
def setB58 (s : Sg) : Sg := stC (stC (s.1, fun a b c => if a = 19 ∧ b = 0 then s.2.1 58 0 c else s.2.1 a b c, s.2.2) 13 (s.1 17)) 17 0
theorem setB58_1 {s : Sg} {c : Nat} (h : ¬ c = 13) (h17 : ¬ c = 17) : (setB58 s).1 c = s.1 c := by
  unfold setB58
  rw [stC_ne h17, stC_ne h]
theorem setB58_13 {s : Sg} : (setB58 s).1 13 = s.1 17 := by
  unfold setB58
  rw [stC_ne (by decide), stC_eq]
theorem setB58_17 {s : Sg} : (setB58 s).1 17 = 0 := stC_eq
theorem setB58_2 {s : Sg} {a b c : Nat} (h : ¬ (a = 19 ∧ b = 0)) : (setB58 s).2.1 a b c = s.2.1 a b c := if_neg h
theorem setB58_19 {s : Sg} {c : Nat} : (setB58 s).2.1 19 0 c = s.2.1 58 0 c := by
  show (if (19 : Nat) = 19 ∧ (0 : Nat) = 0 then s.2.1 58 0 c else s.2.1 19 0 c) = _
  exact if_pos ⟨rfl, rfl⟩
section SBg
variable {own : String} {cc : ByteArray} {nL d U : Nat} {ret : Option FieldType} {pc nx : Nat}
def op_new58 (nx : Nat) : Sem := fun U k _ _ u L st s => match st with
  | .inl (.inl v) :: st' => s.1 17 = 0 ∧ s.1 14 = 0 ∧ (¬ v < 0) ∧ 0 < v.toNatClampNeg ∧ v.toNatClampNeg ≤ 48 ∧ u + 2 ≤ U ∧ noK 58 st' = true ∧ noK 58 (L.map (fun z => .inl z.2)) = true ∧ k nx (u + 2) L (aR 58 0 :: st') (mk58 s v.toNatClampNeg)
  | _ => False
theorem ok_new58 (harr : Cond.arrayClass .byte ∈ TB) (hd : decode cc pc = .ok (.newarray .byte, 2)) (hn : pc + 2 = nx) : GSnd own cc nL d U ret pc (op_new58 nx) := by
  intro g p l e R s m args below meth c w0 hC ad0 K0 N X Q hQ k hk u L st s1 h ad K hE
  subst hn
  intro H locs ls hP hS hl
  unfold op_new58 at h
  split at h
  · rename_i v st'
    obtain ⟨h17, h14, hv0, hvp, hv48, hu, hst, hL, h⟩ := h
    have hR := hC.2.2.2.2.1
    have ht : ∀ w ∈ TB, w.before args s = true := fun w hw => hC.1.2.2.2.2 w (List.mem_cons_of_mem _ hw)
    subst hR
    have hS9 : va_S (gA g) H H locs := ⟨Nat.le_refl _, fun _ _ _ => rfl, hS.2.2⟩
    have hum : u * 24 + 2 * 24 ≤ U * 24 := by rw [← Nat.add_mul]; exact Nat.mul_le_mul_right _ hu
    have hnew : ¬ Lv s1 58 0 := fun hL9 => by have := hL9.2; omega
    refine va_newa (atype := .byte) (ty := .byte) (N' := v.toNatClampNeg) (a0 := (v.toNatClampNeg, .inl (fun _ => 0))) (H0 := H) hC.1.1 hC.1.2.1 (ht _ harr) rfl hC.2.1.1 hP.1 hP.2.1 hS9 (fun q hq => Nat.le_trans hP.2.2.2.1 hq) (fun _ => rfl) hv0 rfl (by show v.toNatClampNeg * 1 ≤ _; omega) ?_ ?_ hd ?_
    · show u * 4 + 1 ≤ U * 4
      omega
    · show u * 24 + v.toNatClampNeg ≤ U * 24
      omega
    · intro q cA H1 hK1 hP1 hD1 hS1
      have ec : cA = g.2.1 5 := GS_ty hC.2.1 (k := 5) rfl hK1
      subst ec
      have hS2 : va_S (gA g) s.heap H1 locs := ⟨Nat.le_trans hS.1 hS1.1, fun z h1 h2 => (hS1.2.1 z (Nat.lt_of_lt_of_le h1 hS.1) h2).trans (hS.2.1 z h1 h2), hS1.2.2⟩
      have hLv : ∀ x y, Lv (mk58 s1 v.toNatClampNeg) x y ↔ (Lv s1 x y ∨ (x = 58 ∧ y = 0)) := by
        intro x y
        by_cases hx : x = 58
        · subst hx
          constructor
          · exact fun h9 => Or.inr ⟨rfl, h9.1⟩
          · rintro (h9 | h9)
            · exact absurd h9.2 (by omega)
            · exact ⟨h9.2, hvp⟩
        · have e9 : Lv (mk58 s1 v.toNatClampNeg) x y = Lv s1 x y := by
            unfold Lv
            split <;> first | rfl | (exact absurd rfl hx) | (rw [mk58_1 (by omega), mk58_1 (by omega)]) | (rw [mk58_1 (by omega)]) | (exact propext (and_congr_right fun hi => by rw [mk58_1 (by omega)]))
          rw [e9]
          exact ⟨Or.inl, fun h9 => h9.elim id fun h9 => absurd h9.1 hx⟩
      have hGP : GP g (adN ad 58 0 q) (K ++ [(58, 0)]) (mk58 s1 v.toNatClampNeg) H1 := GP_new (by decide) hP hnew hLv (e := .inl (g.2.1 5, v.toNatClampNeg, .inl (fun _ => 0)))
        (by
          rw [ent_5 (n := 17) rfl rfl]
          congr 3)
        (fun x y hxy => ent_eq (fun _ => mk58_2 (fun hc => hnew (by rw [hc.1, hc.2] at hxy; exact hxy))) (fun _ => rfl) (fun hx => by subst hx; have : y < 3 := hxy; exact mk58_1 (by omega)) (fun hx => by subst hx; have : y < 3 := hxy.1; exact ⟨mk58_1 (by omega), by rw [mk58_1 (by omega), mk58_1 (by omega)]⟩)
          ⟨fun _ => mk58_1 (by decide), fun hx => by subst hx; exact absurd hxy.2 (by omega)⟩ (fun _ => ⟨mk58_1 (by decide), mk58_1 (by decide)⟩) (fun t i hR => adN_old fun hc => by
            rcases hR with ⟨k9, o, c9, n9, ho9, hk9', hr, hi⟩ | ⟨rfl, rfl, hi⟩ | ⟨hx, rfl⟩ | ⟨rfl, rfl, hi⟩
            · unfold rf at hr
              split at hr
              all_goals first
                | (cases hr; exact absurd hc.1 (by decide))
                | (cases hr; done)
            · have : y < 3 := hxy.1
              omega
            · omega
            · have := hxy.2
              omega)) hP1 hD1 hS1.1
        (fun j hj hz => by
          rw [mk58_1 (by omega)] at hz
          rw [adN_old (fun h => by have := h.1; omega)]
          exact hP.2.2.2.2.1 j hj hz)
      have key := hk _ _ _ _ _ h _ _ (hE.tr (Ex_new (q := q) hP hnew)) H1 locs ls hGP hS2 (by rw [noK_L hL]; exact hl)
      rw [List.map_cons, ← noK_ok (ad := ad) (a := 0) (q := q) hst, show cv (adN ad 58 0 q) (aR 58 0) = .ref q from congrArg Value.ref adN_new] at key
      refine W.widen (k := (u + 2) * cU) (n := (u + 2) * sU) ?_ ?_ key
      · show u * 4 + 1 ≤ (u + 2) * 4
        omega
      · show u * 24 + v.toNatClampNeg ≤ (u + 2) * 24
        omega
  · exact h.elim
/-- the old bytes into the longer row -/
def op_copy58 (nx : Nat) : Sem := fun _ k _ _ u L st s => match st with
  | .inl (.inl n) :: .inl (.inl z1) :: .inl (.inr (58, 0)) :: .inl (.inl z0) :: .inl (.inr (19, 0)) :: st' => z1 = 0 ∧ z0 = 0 ∧ Lv s 19 0 ∧ Lv s 58 0 ∧ (¬ n < 0) ∧ n.toNatClampNeg ≤ s.1 13 ∧ n.toNatClampNeg ≤ s.1 17 ∧ (∀ j, fits .byte (.int (s.2.1 19 0 j)) = true) ∧ catS st' ≤ 8 ∧ k nx u L st' (cp58 s n.toNatClampNeg)
  | _ => False
theorem ok_copy58 {idx : Nat} (h1 : Cond.methodLink own idx arraycopyName ∈ TB) (h2 : Cond.native arraycopyName ∈ TB) (h3 : Cond.static arraycopyName ∈ TB) (h4 : Cond.initialized "java/lang/System" ∈ TB) (hdd : 1 ≤ d)
    (hd : decode cc pc = .ok (.invokestatic idx, 3)) (hn : pc + 3 = nx) : Snd own cc nL d U ret pc (op_copy58 nx) := by
  intro g p l e R s m args below meth c9 w0 hC ad K N X Q hQ k hk u L st s0 h
  subst hn
  intro H locs ls hP hS hl
  unfold op_copy58 at h
  split at h
  · rename_i n z1 z0 st'
    obtain ⟨rfl, rfl, hL19, hL58, hn0, hn1, hn2, hfit, hcat, h⟩ := h
    obtain ⟨q0, he0, hK0⟩ := gws_at (g := g) (ad := ad) (s := s0) (hP.2.2.1 19 0 hL19)
    rw [ent_5 (n := 13) rfl rfl] at he0
    obtain ⟨q1, he1, hK1⟩ := gws_at (g := g) (ad := ad) (s := s0) (hP.2.2.1 58 0 hL58)
    rw [ent_5 (n := 17) rfl rfl] at he1
    have ht : ∀ w ∈ TB, w.before args s = true := fun w hw => hC.1.2.2.2.2 w (List.mem_cons_of_mem _ hw)
    have hR := hC.2.2.2.2.1
    subst hR
    have hsp : (0 : Int32).toNatClampNeg = 0 := rfl
    refine va_copyi (D := g.1) hC.1.1 hC.1.2.1 (hC.1.2.2.1.trans hl.1.symm) hC.1.2.2.2.1 (ht _ h1) (ht _ h2) (ht _ h3) (ht _ h4) hC.2.1.1 hP.1 hP.2.1 hS q0 q1 5 5 he0 he1 rfl rfl rfl (by decide) (by decide) hn0 (by rw [hsp, Nat.zero_add]; exact hn1) (by rw [hsp, Nat.zero_add]; exact hn2) (fun j _ => hfit _) (by show 1 ≤ d; exact hdd) ?_ hd (fun H1 locs1 hP1 hD1 hS1 => ?_)
    · show _ + _ ≤ 38 * d
      rw [catS_ok]
      have : nativeFrameWords "java/lang/System" "arraycopy" 5 ≤ 12 := by decide
      omega
    · rw [hsp] at hP1 hD1
      refine hk _ _ _ _ _ h H1 locs1 ls (GP_stK hP hK1 (s' := cp58 s0 n.toNatClampNeg) ?_ (fun z hz hne => ?_) (fun _ _ => Iff.rfl) (fun _ _ hz => hz) hP1 hD1) hS1 hl
      · rw [ent_5 (n := 17) rfl rfl]
        congr 4
      · obtain ⟨x, y⟩ := z
        exact ent_eq (fun c => cp58_2 fun hh => hne (Prod.ext hh.1 hh.2)) (fun _ => rfl) (fun _ => rfl) (fun _ => ⟨rfl, rfl⟩) ⟨fun _ => rfl, fun _ => rfl⟩ (fun _ => ⟨rfl, rfl⟩) (fun _ _ _ => rfl)
  · exact h.elim
/-- the longer row is the builder's -/
def op_pval (nx : Nat) : Sem := fun _ k _ _ u L st s => match st with
  | .inl (.inr (58, 0)) :: .inl (.inr (18, 0)) :: st' => Lv s 18 0 ∧ s.1 12 = 1 ∧ 0 < s.1 17 ∧ s.1 14 = 0 ∧ lvs s st' ∧ lvK s L (fun L' => k nx u L' st' (setB58 s))
  | _ => False
set_option maxHeartbeats 1000000 in
theorem ok_pval {idx : Nat} (hin : ∀ w ∈ u_ws RJ4 TJ4 4, w ∈ TB) (hw : Cond.fieldLink own idx (TJ4 0).1 (TJ4 0).2.1 (TJ4 0).2.2.1 ∈ TB) (hd : decode cc pc = .ok (.putfield idx, 3)) (hn : pc + 3 = nx) : GSnd own cc nL d U ret pc (op_pval nx) := by
  intro g p l e R s m args below meth c9 w0 hC ad0 K0 N X Q hQ k hk u L st s1 h ad K hE
  subst hn
  intro H locs ls hP hS hl
  unfold op_pval at h
  split at h
  · rename_i st'
    obtain ⟨hL18, h12, h17, h14, hlv, hlk⟩ := h
    obtain ⟨L', hk2, hsub⟩ := lvK_ok hlk
    obtain ⟨q0, he0, hK0⟩ := gws_at (g := g) (ad := ad) (s := s1) (hP.2.2.1 18 0 hL18)
    rw [ent_ob (c := 0) (n := 4) rfl] at he0
    refine va_put (D := g.1) (ci := 0) (v := .ref (ad 58 0)) (ty := .array .byte) (Ts := w0 :: TB) hC.1.1 hC.1.2.1 hC.1.2.2.2.2 (fun w hw => List.mem_cons_of_mem _ (hin w hw)) tyJ4 tyJ4_ok nmJ4 hC.1.2.2.2.1 hC.2.1.1 hP.1 hP.2.1 hS q0 he0 rfl 0 (by decide) (hC.1.2.2.2.2 _ (List.mem_cons_of_mem _ hw)) (fun _ q => q) rfl rfl rfl rfl (by simp) hd (fun H1 locs1 hP1 hD1 hS1 => ?_)
    have h58 : (58, 0) ∈ K := hP.2.2.1 58 0 ⟨rfl, h17⟩
    have hinj := gws_nd hP.2.1
    generalize hK' : (K.filter fun z => decide (¬ z = (19, 0) ∧ ¬ z = (58, 0))) = K1
    have hK1 : ∀ z, z ∈ K1 ↔ z ∈ K ∧ ¬ z = (19, 0) ∧ ¬ z = (58, 0) := fun z => by rw [← hK', List.mem_filter, decide_eq_true_eq]
    have hadold : ∀ t j, ¬ (t = 19 ∧ j = 0) → adN ad 19 0 (ad 58 0) t j = ad t j := fun t j hh => adN_old hh
    have hx59 : ∀ x y, Lv s1 x y → ¬ x = 59 := fun x y hxy hx => by subst hx; have := hxy.2; omega
    have hent : ∀ x y, Lv s1 x y → ¬ (x, y) = (19, 0) → ¬ (x, y) = (58, 0) → ¬ (x, y) = (18, 0) → ent g (adN ad 19 0 (ad 58 0)) (setB58 s1) x y = ent g ad s1 x y := fun x y hxy n3 n58 n18 =>
      ent_eq (fun _ => setB58_2 (fun hc => n3 (by rw [hc.1, hc.2]))) (fun _ => rfl) (fun hx => by subst hx; have : y < 3 := hxy; exact setB58_1 (by omega) (by omega)) (fun hx => by subst hx; have : y < 3 := hxy.1; exact ⟨setB58_1 (by omega) (by omega), by rw [setB58_1 (by omega) (by omega), setB58_1 (by omega) (by omega)]⟩)
        ⟨fun hx => by subst hx; have h9 : y < s1.1 12 := hxy; exact absurd (by rw [show y = 0 by omega]) n3, fun hx => by subst hx; exact absurd (by rw [hxy.1]) n58⟩ (fun hx => absurd hx (hx59 x y hxy)) (fun t j hR => hadold t j fun hc => by
          have h9 := (RF_no hR (fun hx => by subst hx; exact hxy.1) (hx59 x y hxy)).2.2.2.2 hc.1
          subst h9
          have h10 : y < s1.1 12 := hxy
          exact n18 (by rw [show y = 0 by omega]))
    have e19 : ent g (adN ad 19 0 (ad 58 0)) (setB58 s1) 19 0 = ent g ad s1 58 0 := by
      rw [ent_5 (n := 13) rfl rfl, ent_5 (n := 17) rfl rfl, setB58_13]
      congr 3
    have e18 : ent g (adN ad 19 0 (ad 58 0)) (setB58 s1) 18 0 = .inr (0, ((List.range 4).map (fun k => cL ad (gf s1 18 0 k))).set 0 (.ref (ad 58 0))) := by
      rw [ent_ob (c := 0) (n := 4) rfl]
      congr 2
    have hmem : ∀ x ∈ gws g (adN ad 19 0 (ad 58 0)) (K1 ++ [(19, 0)]) (setB58 s1), x ∈ (gws g ad K s1).set q0 (ad 18 0, .inr (0, ((List.range 4).map (fun k => cL ad (gf s1 18 0 k))).set 0 (.ref (ad 58 0)))) := by
      intro x hx
      unfold gws at hx
      obtain ⟨z, hz, rfl⟩ := List.mem_map.mp hx
      rcases List.mem_append.mp hz with hz | hz
      · obtain ⟨hzK, n3, n58⟩ := (hK1 z).mp hz
        obtain ⟨t, j⟩ := z
        have hxy := hP.2.2.2.2.2.1 _ hzK
        rw [show adN ad 19 0 (ad 58 0) (t, j).1 (t, j).2 = ad t j from hadold t j fun hc => n3 (by rw [hc.1, hc.2])]
        by_cases n2 : (t, j) = (18, 0)
        · cases n2
          rw [e18]
          exact List.mem_of_getElem? (i := q0) (by rw [List.getElem?_set_self (List.getElem?_eq_some_iff.mp he0).1])
        · rw [hent t j hxy n3 n58 n2]
          exact gws_set_mem hP.2.1 hK0 hzK n2
      · rw [List.mem_singleton.mp hz, e19, adN_new]
        exact gws_set_mem hP.2.1 hK0 h58 (fun hc => by cases hc)
    have hnd : ((gws g (adN ad 19 0 (ad 58 0)) (K1 ++ [(19, 0)]) (setB58 s1)).map (·.1)).Nodup := by
      have e9 : (gws g (adN ad 19 0 (ad 58 0)) (K1 ++ [(19, 0)]) (setB58 s1)).map (·.1) = K1.map (fun q => ad q.1 q.2) ++ [ad 58 0] := by
        unfold gws
        rw [List.map_map, List.map_append]
        congr 1
        · refine List.map_congr_left fun z hz => ?_
          exact hadold z.1 z.2 fun hc => ((hK1 z).mp hz).2.1 (by rw [← hc.1, ← hc.2])
      rw [e9, List.nodup_append]
      refine ⟨?_, by simp, ?_⟩
      · rw [← hK']
        exact hinj.sublist ((List.filter_sublist).map _)
      · intro x hx y hy hxy
        obtain ⟨z, hz, rfl⟩ := List.mem_map.mp hx
        rw [List.mem_singleton.mp hy] at hxy
        exact ((hK1 z).mp hz).2.2 (ad_inj hinj ((hK1 z).mp hz).1 h58 hxy)
    have hPn := VP_mem hP1 hmem
    have hDn : va_D (gA g) (gws g (adN ad 19 0 (ad 58 0)) (K1 ++ [(19, 0)]) (setB58 s1)) := VD_iff.mpr ⟨hnd, fun x hx => (VD_iff.mp hD1).2 x (hmem x hx)⟩
    have hLv : ∀ x y, Lv (setB58 s1) x y ↔ (x, y) ∈ K1 ++ [(19, 0)] := by
      intro x y
      rw [List.mem_append, List.mem_singleton, hK1]
      by_cases hx3 : (x, y) = (19, 0)
      · cases hx3
        exact ⟨fun _ => Or.inr rfl, fun _ => by show 0 < (setB58 s1).1 12; rw [setB58_1 (by decide) (by decide), h12]; decide⟩
      · by_cases hx58 : x = 58
        · subst hx58
          constructor
          · intro h9
            have := h9.2
            rw [setB58_17] at this
            omega
          · rintro (h9 | h9)
            · have := hP.2.2.2.2.2.1 _ h9.1
              exact absurd (congrArg (fun q => (58, q)) (show y = 0 from this.1)) h9.2.2
            · cases h9
        · have e9 : Lv (setB58 s1) x y = Lv s1 x y := by
            unfold Lv
            split <;> first | rfl | (exact absurd rfl hx58) | (rw [setB58_1 (by omega) (by omega), setB58_1 (by omega) (by omega)]) | (rw [setB58_1 (by omega) (by omega)]) | (exact propext (and_congr_right fun hi => by rw [setB58_1 (by omega) (by omega)]))
          rw [e9]
          constructor
          · intro h9
            exact Or.inl ⟨hP.2.2.1 x y h9, hx3, fun hc => hx58 (by cases hc; rfl)⟩
          · rintro (h9 | h9)
            · exact hP.2.2.2.2.2.1 _ h9.1
            · exact absurd h9 hx3
    have hz2 : g.2.2 ≤ H1.size := by
      have e9 : ((gws g ad K s1).set q0 (ad 18 0, .inr (0, ((List.range 4).map (fun k => cL ad (gf s1 18 0 k))).set 0 (.ref (ad 58 0)))))[q0]? = some _ := List.getElem?_set_self (List.getElem?_eq_some_iff.mp he0).1
      exact Nat.le_of_lt (Nat.lt_of_le_of_lt (hD1.2 q0 _ e9) ((hP1 q0 _ e9).lt))
    have hGP : GP g (adN ad 19 0 (ad 58 0)) (K1 ++ [(19, 0)]) (setB58 s1) H1 := ⟨hPn, hDn, fun x y hxy => (hLv x y).mp hxy, hz2, fun j hj hz => by
      rw [setB58_1 (by omega) (by omega)] at hz
      rw [hadold 3 j (by omega)]
      exact hP.2.2.2.2.1 j hj hz, fun z hz => (hLv z.1 z.2).mpr hz, fun t j h70 => by rw [hadold t j (by omega)]; exact gp_const hP j h70⟩
    have hE1 : Ex ad K (adN ad 19 0 (ad 58 0)) (K1 ++ [(19, 0)]) := fun z hz n58 n59 => by
      refine ⟨?_, fun _ n19 => hadold z.1 z.2 fun hc => n19 hc.1⟩
      by_cases h3 : z = (19, 0)
      · exact List.mem_append_right _ (List.mem_singleton.mpr h3)
      · exact List.mem_append_left _ ((hK1 z).mpr ⟨hz, h3, fun hc => n58 (by rw [hc])⟩)
    have hl1 := has_mem hl (hsub hP.2.2.1 hE1 (gp_cc hP hGP))
    have key := hk _ _ _ _ _ hk2 _ _ (hE.tr hE1) H1 locs1 ls hGP hS1 hl1
    rw [← lvs_ok hP.2.2.1 hE1 (gp_cc hP hGP) hlv] at key
    exact key
  · exact h.elim
end SBg

