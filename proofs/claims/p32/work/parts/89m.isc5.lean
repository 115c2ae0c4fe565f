/-! the law's isCause: a new cause's front, all -/
section IsCs5
variable {N : Nt} {X : Xt} {Z : Kt} {s : Sg} {t a b k : Nat} {fa mo : Nat → Nat} {T : Nat → Nat → Nat}
theorem Bv_eq {x y : Int32} {P : Prop} (h : Bv x P) (h2 : Bv y P) : x = y := by
  rcases h with ⟨rfl, h⟩ | ⟨rfl, h⟩ <;> rcases h2 with ⟨rfl, h2⟩ | ⟨rfl, h2⟩
  · rfl
  · exact absurd h h2
  · exact absurd h2 h
  · rfl
abbrev lCm (a b v pl db : Nat) (bl z : Int32) (one oth : Nat) : LC := lCn a b v pl db bl ++ [(16, .inl 1), (17, .inl z), (18, .inl (nI one)), (19, .inl (nI oth))]
set_option maxRecDepth 100000 in
set_option maxHeartbeats 4000000 in
theorem isC_n242 {v pl db one oth plv lk st la : Nat} {bl z yh : Int32} (run : Rn tab_L_isCause 20 N X Z) (h : Rg t fa mo T (rows s) s) (hn8 : s.1 2 < 8) (hv : v < s.1 1) (hV : Vp s v one oth plv lk st la) (hpl : pl < 9) (hdb : db < 129) (hbl : bl = 0 ∨ bl = 1) (hz : Bv z (pl < 8 ∧ 0 < db ∧ db < 128)) (hy : Bv yh (pl < 8 ∧ icourt s v (nI pl)))
    (hN : ∀ s2, Rl (t + 1) s2 → N (some (aI 1)) s2) : Z 242 0 (lCm a b v pl db bl z one oth) [aI yh] s := by
  have hn := Rg_n h
  have hb := hV.1
  have cv : (nI v).toNatClampNeg = v := nI_clamp (by omega)
  have bv : Ib (nI v) 17 := nIb (by omega) (by decide)
  have hvr := Vp_vR hn.1 hV
  have l1 : (8 : Int32) ≤ nI pl ↔ 8 ≤ pl := nI_leI (a := 8) (by decide) (by omega)
  have l2 : irm (irm (s.2.1 24 0 (nI v).toNatClampNeg / 4096) 4) 3 = 0 ↔ (st = 0 ∨ st = 3) := by rw [cv, vR_st hvr]; exact st3 hb.2.2.2.2.1
  have mb := mbj_cl h hv hV
  have i1 := iq_cl (X := X) h (k := nI v)
  have i2 : pl < 8 → sp_X4_hasCause [aR 1 0, aI (nI v), aI (nI pl)] s (fun r s' => s' = s ∧ ∃ y : Int32, r = some (aI y) ∧ Bv y (pl < 8 ∧ icourt s v (nI pl))) X := fun h8 =>
    ⟨Rg_CI h, fun q => absurd ((iC_N (by omega) (by omega)).mpr hv) q, fun _ => ⟨fun q => absurd ((rgN (b := 8) (by omega) (by decide)).mpr h8) q, fun _ => by rw [clN (by omega)]; exact ⟨fun q => ⟨rfl, _, rfl, Bv_t ⟨h8, q⟩⟩, fun q => ⟨rfl, _, rfl, Bv_f (fun w => q w.2)⟩⟩⟩⟩
  have j297 : ∀ cn, Bv cn ((pl < 8 ∧ 0 < db ∧ db < 128) ∧ (¬ bl = 0 ∨ icourt s v (nI pl)) ∧ mbj s (nI v)) → Z 297 0 (lCm a b v pl db bl z one oth ++ [(20, .inl yh)]) [aI cn] s := by
    intro cn hcn
    have j := fun u hu => isC_n326 (a := a) (b := b) (one := one) (oth := oth) (yh := yh) (u := u) run h hn8 hv hpl hdb hbl hz hcn hu hN
    by_cases c1 : 8 ≤ pl
    · have e1 := l1.mpr c1
      have j := j 0 (Or.inl rfl)
      refine run.go [326] 60 ?_
      repeat' (first | apply And.intro | (intro q; exact absurd q (by decide)) | (intro q; exact absurd (by decide) q) | (intro q; exact absurd rfl q) | (intro q; exact absurd q e1) | (intro q; exact absurd e1 q) | intro _)
      all_goals first | (exact trivial) | (with_reducible exact Nat.le_refl _) | decide | (exact (rfl : (0 : Nat) = 0)) | (exact Nat.le_of_ble_eq_true rfl) | ((with_reducible show False); contradiction) | (exact j)
    · have e1 : ¬ _ := fun w => c1 (l1.mp w)
      have j := j 4 (Or.inr rfl)
      refine run.go [326] 60 ?_
      repeat' (first | apply And.intro | (intro q; exact absurd q (by decide)) | (intro q; exact absurd (by decide) q) | (intro q; exact absurd rfl q) | (intro q; exact absurd q e1) | (intro q; exact absurd e1 q) | intro _)
      all_goals first | (exact trivial) | (with_reducible exact Nat.le_refl _) | decide | (exact (rfl : (0 : Nat) = 0)) | (exact Nat.le_of_ble_eq_true rfl) | ((with_reducible show False); contradiction) | skip
      refine ⟨_, i2 (by omega), ?_⟩
      rintro r s' ⟨rfl, y, rfl, hy2⟩
      obtain rfl := Bv_eq hy hy2
      rcases hy with ⟨rfl, hy⟩ | ⟨rfl, hy⟩
      · repeat' (first | apply And.intro | (intro q; exact absurd q (by decide)) | (intro q; exact absurd (by decide) q) | (intro q; exact absurd rfl q) | intro _)
        all_goals first | (exact trivial) | (with_reducible exact Nat.le_refl _) | decide | (exact (rfl : (0 : Nat) = 0)) | (exact Nat.le_of_ble_eq_true rfl) | ((with_reducible show False); contradiction) | (exact j)
      · repeat' (first | apply And.intro | (intro q; exact absurd q (by decide)) | (intro q; exact absurd (by decide) q) | (intro q; exact absurd rfl q) | intro _)
        all_goals first | (exact trivial) | (with_reducible exact Nat.le_refl _) | decide | (exact (rfl : (0 : Nat) = 0)) | (exact Nat.le_of_ble_eq_true rfl) | ((with_reducible show False); contradiction) | (exact j)
  rcases hz with ⟨rfl, hz⟩ | ⟨rfl, hz⟩
  · by_cases c2 : st = 0 ∨ st = 3
    · have e2 := l2.mpr c2
      refine run.go [297] 90 ?_
      repeat' (first | apply And.intro | (intro q; exact absurd q (by decide)) | (intro q; exact absurd (by decide) q) | (intro q; exact absurd rfl q) | (intro q; exact absurd q e2) | (intro q; exact absurd e2 q) | intro _)
      all_goals first | (exact bv) | (exact trivial) | (with_reducible exact Nat.le_refl _) | decide | (exact (rfl : (0 : Nat) = 0)) | (exact Nat.le_of_ble_eq_true rfl) | ((with_reducible show False); contradiction) | skip
      refine ⟨_, i1, ?_⟩
      rintro r s' ⟨rfl, y, rfl, hq⟩
      rcases hq with ⟨rfl, hq⟩ | ⟨rfl, hq⟩
      · have hm := mb.mpr ⟨c2, hq⟩
        rcases hbl with rfl | rfl
        · rcases hy with ⟨rfl, hy⟩ | ⟨rfl, hy⟩
          · have j := j297 1 (Bv_t ⟨hz, Or.inr hy.2, hm⟩)
            repeat' (first | apply And.intro | (intro q; exact absurd q (by decide)) | (intro q; exact absurd (by decide) q) | (intro q; exact absurd rfl q) | intro _)
            all_goals first | (exact trivial) | (with_reducible exact Nat.le_refl _) | decide | (exact (rfl : (0 : Nat) = 0)) | (exact Nat.le_of_ble_eq_true rfl) | ((with_reducible show False); contradiction) | (exact j)
          · have j := j297 0 (Bv_f fun w => hy ⟨hz.1, w.2.1.elim (fun q => absurd rfl q) id⟩)
            repeat' (first | apply And.intro | (intro q; exact absurd q (by decide)) | (intro q; exact absurd (by decide) q) | (intro q; exact absurd rfl q) | intro _)
            all_goals first | (exact trivial) | (with_reducible exact Nat.le_refl _) | decide | (exact (rfl : (0 : Nat) = 0)) | (exact Nat.le_of_ble_eq_true rfl) | ((with_reducible show False); contradiction) | (exact j)
        · have j := j297 1 (Bv_t ⟨hz, Or.inl (by decide), hm⟩)
          repeat' (first | apply And.intro | (intro q; exact absurd q (by decide)) | (intro q; exact absurd (by decide) q) | (intro q; exact absurd rfl q) | intro _)
          all_goals first | (exact trivial) | (with_reducible exact Nat.le_refl _) | decide | (exact (rfl : (0 : Nat) = 0)) | (exact Nat.le_of_ble_eq_true rfl) | ((with_reducible show False); contradiction) | (exact j)
      · have j := j297 0 (Bv_f fun w => hq (mb.mp w.2.2).2)
        repeat' (first | apply And.intro | (intro q; exact absurd q (by decide)) | (intro q; exact absurd (by decide) q) | (intro q; exact absurd rfl q) | intro _)
        all_goals first | (exact trivial) | (with_reducible exact Nat.le_refl _) | decide | (exact (rfl : (0 : Nat) = 0)) | (exact Nat.le_of_ble_eq_true rfl) | ((with_reducible show False); contradiction) | (exact j)
    · have e2 : ¬ _ := fun w => c2 (l2.mp w)
      have j := j297 0 (Bv_f fun w => c2 (mb.mp w.2.2).1)
      refine run.go [297] 90 ?_
      repeat' (first | apply And.intro | (intro q; exact absurd q (by decide)) | (intro q; exact absurd (by decide) q) | (intro q; exact absurd rfl q) | (intro q; exact absurd q e2) | (intro q; exact absurd e2 q) | intro _)
      all_goals first | (exact bv) | (exact trivial) | (with_reducible exact Nat.le_refl _) | decide | (exact (rfl : (0 : Nat) = 0)) | (exact Nat.le_of_ble_eq_true rfl) | ((with_reducible show False); contradiction) | (exact j)
  · have j := j297 0 (Bv_f fun w => hz w.1)
    refine run.go [297] 90 ?_
    repeat' (first | apply And.intro | (intro q; exact absurd q (by decide)) | (intro q; exact absurd (by decide) q) | (intro q; exact absurd rfl q) | intro _)
    all_goals first | (exact trivial) | (with_reducible exact Nat.le_refl _) | decide | (exact (rfl : (0 : Nat) = 0)) | (exact Nat.le_of_ble_eq_true rfl) | ((with_reducible show False); contradiction) | (exact j)
set_option maxRecDepth 100000 in
set_option maxHeartbeats 4000000 in
theorem isC_n161 {v pl db one oth plv lk st la : Nat} {bl z : Int32} (run : Rn tab_L_isCause 20 N X Z) (h : Rg t fa mo T (rows s) s) (hn8 : s.1 2 < 8) (hv : v < s.1 1) (hV : Vp s v one oth plv lk st la) (hpl : pl < 9) (hdb : db < 129) (hbl : bl = 0 ∨ bl = 1) (hz : Bv z (pl < 8 ∧ 0 < db ∧ db < 128))
    (hN : ∀ s2, Rl (t + 1) s2 → N (some (aI 1)) s2) : Z 161 0 (lCm a b v pl db bl z one oth) [] s := by
  have hn := Rg_n h
  have hb := hV.1
  have cv : (nI v).toNatClampNeg = v := nI_clamp (by omega)
  have c1 : (nI one).toNatClampNeg = one := nI_clamp (by omega)
  have c2 : (nI oth).toNatClampNeg = oth := nI_clamp (by omega)
  have bv : Ib (nI v) 17 := nIb (by omega) (by decide)
  have b1 : Ib (nI one) 17 := nIb (by omega) (by decide)
  have b2 : Ib (nI oth) 17 := nIb (by omega) (by decide)
  have hvr := Vp_vR hn.1 hV
  obtain ⟨ho, ri, od, ba, li, hP⟩ := Rg_p h hb.1
  obtain ⟨ho2, ri2, od2, ba2, li2, hQ⟩ := Rg_p h hb.2.1
  obtain ⟨q1, q2⟩ := Rg_fm h hb.1
  obtain ⟨q3, q4⟩ := Rg_fm h hb.2.1
  have hb1 := hP.1
  have hb2 := hQ.1
  have hpr := Pp_pR hP (by omega) (by omega)
  have hqr := Pp_pR hQ (by omega) (by omega)
  have ic := ic_cl (a := pl) hn.1 (by omega) hV hP hQ
  have l0 : (8 : Int32) ≤ nI pl ↔ 8 ≤ pl := nI_leI (a := 8) (by decide) (by omega)
  have l1 : irm (s.2.1 24 0 (nI v).toNatClampNeg / 256) 8 = nI pl ↔ plv = pl := by rw [cv, vR_pl hvr]; exact nI_eq (by omega) (by omega)
  have l2 : irm (s.2.1 20 0 (nI one).toNatClampNeg / 64) 2 = 0 ↔ li = 1 := by rw [c1, pR_de hpr, n0 (by omega)]; omega
  have l3 : irm (s.2.1 20 0 (nI one).toNatClampNeg) 8 = nI pl ↔ ho = pl := by rw [c1, pR_ho hpr]; exact nI_eq (by omega) (by omega)
  have l4 : irm (s.2.1 20 0 (nI oth).toNatClampNeg / 64) 2 = 0 ↔ li2 = 1 := by rw [c2, pR_de hqr, n0 (by omega)]; omega
  have l5 : irm (s.2.1 20 0 (nI oth).toNatClampNeg) 8 = nI pl ↔ ho2 = pl := by rw [c2, pR_ho hqr]; exact nI_eq (by omega) (by omega)
  have j := fun yh hy => isC_n242 (a := a) (b := b) (yh := yh) run h hn8 hv hV hpl hdb hbl hz hy hN
  have j237 : pl < 8 ∧ icourt s v (nI pl) → Z 237 0 (lCm a b v pl db bl z one oth) [] s := by
    intro hc
    have j := j 1 (Bv_t hc)
    refine run.go [242] 30 ?_
    repeat' (first | apply And.intro | (intro q; exact absurd q (by decide)) | (intro q; exact absurd (by decide) q) | (intro q; exact absurd rfl q) | intro _)
    all_goals first | (exact trivial) | (with_reducible exact Nat.le_refl _) | decide | (exact (rfl : (0 : Nat) = 0)) | (exact Nat.le_of_ble_eq_true rfl) | ((with_reducible show False); contradiction) | (exact j)
  have j241 : ¬ (pl < 8 ∧ icourt s v (nI pl)) → Z 241 0 (lCm a b v pl db bl z one oth) [] s := by
    intro hc
    have j := j 0 (Bv_f hc)
    refine run.go [242] 30 ?_
    repeat' (first | apply And.intro | (intro q; exact absurd q (by decide)) | (intro q; exact absurd (by decide) q) | (intro q; exact absurd rfl q) | intro _)
    all_goals first | (exact trivial) | (with_reducible exact Nat.le_refl _) | decide | (exact (rfl : (0 : Nat) = 0)) | (exact Nat.le_of_ble_eq_true rfl) | ((with_reducible show False); contradiction) | (exact j)
  by_cases k0 : 8 ≤ pl
  · have e0 := l0.mpr k0
    have j := j241 (by omega)
    refine run.go [241] 30 ?_
    repeat' (first | apply And.intro | (intro q; exact absurd q (by decide)) | (intro q; exact absurd (by decide) q) | (intro q; exact absurd rfl q) | (intro q; exact absurd q e0) | (intro q; exact absurd e0 q) | intro _)
    all_goals first | (exact trivial) | (with_reducible exact Nat.le_refl _) | decide | (exact (rfl : (0 : Nat) = 0)) | (exact Nat.le_of_ble_eq_true rfl) | ((with_reducible show False); contradiction) | (exact j)
  · have e0 : ¬ _ := fun w => k0 (l0.mp w)
    have h8 : pl < 8 := by omega
    by_cases k1 : plv = pl
    · have e1 := l1.mpr k1
      have j := j237 ⟨h8, ic.mpr (Or.inl k1)⟩
      refine run.go [237] 30 ?_
      repeat' (first | apply And.intro | (intro q; exact absurd q (by decide)) | (intro q; exact absurd (by decide) q) | (intro q; exact absurd rfl q) | (intro q; exact absurd q e0) | (intro q; exact absurd e0 q) | (intro q; exact absurd q e1) | (intro q; exact absurd e1 q) | intro _)
      all_goals first | (exact bv) | (exact trivial) | (with_reducible exact Nat.le_refl _) | decide | (exact (rfl : (0 : Nat) = 0)) | (exact Nat.le_of_ble_eq_true rfl) | ((with_reducible show False); contradiction) | (exact j)
    · have e1 : ¬ _ := fun w => k1 (l1.mp w)
      have j213 : ¬ (li = 1 ∧ ho = pl) → Z 213 0 (lCm a b v pl db bl z one oth) [] s := by
        intro hc
        by_cases k4 : li2 = 1
        · have e4 := l4.mpr k4
          by_cases k5 : ho2 = pl
          · have e5 := l5.mpr k5
            have j := j237 ⟨h8, ic.mpr (Or.inr (Or.inr ⟨k4, k5⟩))⟩
            refine run.go [237] 30 ?_
            repeat' (first | apply And.intro | (intro q; exact absurd q (by decide)) | (intro q; exact absurd (by decide) q) | (intro q; exact absurd rfl q) | (intro q; exact absurd q e4) | (intro q; exact absurd e4 q) | (intro q; exact absurd q e5) | (intro q; exact absurd e5 q) | intro _)
            all_goals first | (exact b2) | (exact trivial) | (with_reducible exact Nat.le_refl _) | decide | (exact (rfl : (0 : Nat) = 0)) | (exact Nat.le_of_ble_eq_true rfl) | ((with_reducible show False); contradiction) | (exact j)
          · have e5 : ¬ _ := fun w => k5 (l5.mp w)
            have j := j241 (fun w => (ic.mp w.2).elim k1 (fun q => q.elim hc (fun q => k5 q.2)))
            refine run.go [241] 30 ?_
            repeat' (first | apply And.intro | (intro q; exact absurd q (by decide)) | (intro q; exact absurd (by decide) q) | (intro q; exact absurd rfl q) | (intro q; exact absurd q e4) | (intro q; exact absurd e4 q) | (intro q; exact absurd q e5) | (intro q; exact absurd e5 q) | intro _)
            all_goals first | (exact b2) | (exact trivial) | (with_reducible exact Nat.le_refl _) | decide | (exact (rfl : (0 : Nat) = 0)) | (exact Nat.le_of_ble_eq_true rfl) | ((with_reducible show False); contradiction) | (exact j)
        · have e4 : ¬ _ := fun w => k4 (l4.mp w)
          have j := j241 (fun w => (ic.mp w.2).elim k1 (fun q => q.elim hc (fun q => k4 q.1)))
          refine run.go [241] 30 ?_
          repeat' (first | apply And.intro | (intro q; exact absurd q (by decide)) | (intro q; exact absurd (by decide) q) | (intro q; exact absurd rfl q) | (intro q; exact absurd q e4) | (intro q; exact absurd e4 q) | intro _)
          all_goals first | (exact b2) | (exact trivial) | (with_reducible exact Nat.le_refl _) | decide | (exact (rfl : (0 : Nat) = 0)) | (exact Nat.le_of_ble_eq_true rfl) | ((with_reducible show False); contradiction) | (exact j)
      by_cases k2 : li = 1
      · have e2 := l2.mpr k2
        by_cases k3 : ho = pl
        · have e3 := l3.mpr k3
          have j := j237 ⟨h8, ic.mpr (Or.inr (Or.inl ⟨k2, k3⟩))⟩
          refine run.go [237] 60 ?_
          repeat' (first | apply And.intro | (intro q; exact absurd q (by decide)) | (intro q; exact absurd (by decide) q) | (intro q; exact absurd rfl q) | (intro q; exact absurd q e0) | (intro q; exact absurd e0 q) | (intro q; exact absurd q e1) | (intro q; exact absurd e1 q) | (intro q; exact absurd q e2) | (intro q; exact absurd e2 q) | (intro q; exact absurd q e3) | (intro q; exact absurd e3 q) | intro _)
          all_goals first | (exact bv) | (exact b1) | (exact trivial) | (with_reducible exact Nat.le_refl _) | decide | (exact (rfl : (0 : Nat) = 0)) | (exact Nat.le_of_ble_eq_true rfl) | ((with_reducible show False); contradiction) | (exact j)
        · have e3 : ¬ _ := fun w => k3 (l3.mp w)
          have j := j213 (fun w => k3 w.2)
          refine run.go [213] 60 ?_
          repeat' (first | apply And.intro | (intro q; exact absurd q (by decide)) | (intro q; exact absurd (by decide) q) | (intro q; exact absurd rfl q) | (intro q; exact absurd q e0) | (intro q; exact absurd e0 q) | (intro q; exact absurd q e1) | (intro q; exact absurd e1 q) | (intro q; exact absurd q e2) | (intro q; exact absurd e2 q) | (intro q; exact absurd q e3) | (intro q; exact absurd e3 q) | intro _)
          all_goals first | (exact bv) | (exact b1) | (exact trivial) | (with_reducible exact Nat.le_refl _) | decide | (exact (rfl : (0 : Nat) = 0)) | (exact Nat.le_of_ble_eq_true rfl) | ((with_reducible show False); contradiction) | (exact j)
      · have e2 : ¬ _ := fun w => k2 (l2.mp w)
        have j := j213 (fun w => k2 w.1)
        refine run.go [213] 60 ?_
        repeat' (first | apply And.intro | (intro q; exact absurd q (by decide)) | (intro q; exact absurd (by decide) q) | (intro q; exact absurd rfl q) | (intro q; exact absurd q e0) | (intro q; exact absurd e0 q) | (intro q; exact absurd q e1) | (intro q; exact absurd e1 q) | (intro q; exact absurd q e2) | (intro q; exact absurd e2 q) | intro _)
        all_goals first | (exact bv) | (exact b1) | (exact trivial) | (with_reducible exact Nat.le_refl _) | decide | (exact (rfl : (0 : Nat) = 0)) | (exact Nat.le_of_ble_eq_true rfl) | ((with_reducible show False); contradiction) | (exact j)
end IsCs5

