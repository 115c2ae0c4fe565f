/-! the calls: dispensations, a new vow, a new cause -/
theorem dse {x p q k : Nat} (hx : ∃ p' q' k' : Nat, p' < 16 ∧ q' < 16 ∧ (k' = 1 ∨ k' = 2 ∨ k' = 8) ∧ x = p' + 16 * q' + 256 * k') (hp : p < 16) (hq : q < 16) : (((x % 16 = p ∧ x / 16 % 16 = q) ∨ (x % 16 = q ∧ x / 16 % 16 = p)) ∧ x / 256 = k) ↔ (x = p + 16 * q + 256 * k ∨ x = q + 16 * p + 256 * k) := by
  obtain ⟨p', q', k', h1, h2, h3, rfl⟩ := hx
  omega
theorem bit_or : ∀ x, x < 2 → ∀ y, y < 2 → ∀ z, z < 2 → (nI (x + 2 * y + 8 * z) ||| 1 = nI (1 + 2 * y + 8 * z) ∧ nI (x + 2 * y + 8 * z) ||| 2 = nI (x + 2 * 1 + 8 * z) ∧ nI (x + 2 * y + 8 * z) ||| 8 = nI (x + 2 * y + 8 * 1)) := by decide +kernel
theorem bit_kp : ∀ a, a < 2 → ∀ b, b < 2 → ∀ c, c < 2 → ∀ x, x < 2 → ∀ y, y < 2 → ∀ z, z < 2 → nI (a + 2 * b + 8 * c) &&& (nI (x + 2 * y + 8 * z) ^^^ -1) = nI (a * (1 - x) + 2 * (b * (1 - y)) + 8 * (c * (1 - z))) := by decide +kernel
theorem bit_an : ∀ a, a < 2 → ∀ b, b < 2 → ∀ c, c < 2 → ((¬ nI (a + 2 * b + 8 * c) &&& 1 = 0 ↔ a = 1) ∧ (¬ nI (a + 2 * b + 8 * c) &&& 2 = 0 ↔ b = 1) ∧ (¬ nI (a + 2 * b + 8 * c) &&& 8 = 0 ↔ c = 1)) := by decide +kernel
theorem ml2 {a b : Nat} (ha : a < 2) (hb : b < 2) : a * (1 - b) < 2 ∧ (a * (1 - b) = 1 ↔ (a = 1 ∧ b = 0)) := by
  have : a = 0 ∨ a = 1 := by omega
  have : b = 0 ∨ b = 1 := by omega
  rcases ‹a = 0 ∨ a = 1› with rfl | rfl <;> rcases ‹b = 0 ∨ b = 1› with rfl | rfl <;> decide
theorem lh_o {s z : Sg} {p q : Int32} (h1 : ∀ b c, z.2.1 1 b c = s.2.1 1 b c) (h6 : ∀ b c, z.2.1 6 b c = s.2.1 6 b c) (h8 : ∀ b c, z.2.1 8 b c = s.2.1 8 b c) (h12 : ∀ b c, z.2.1 12 b c = s.2.1 12 b c) : lhC z p q = lhC s p q := by
  have e6 : ∀ b, z.2.1 6 b = s.2.1 6 b := fun b => funext (h6 b)
  unfold lhC lh3 lh2 lh1 aoy ilC dgC
  simp only [h1, h8, h12, e6]
section Do8
variable {t : Nat} {fa mo : Nat → Nat} {T : Nat → Nat → Nat} {s s' : Sg} {X : Xt} {k : Nat}
/-- the law's own list of dispensations -/
theorem ds_cl (h : Rg t fa mo T (rows s) s) {n p q k : Nat} (hn : s.2.1 23 0 15 = nI n) (hn2 : n ≤ 15) (hp : p < 16) (hq : q < 16) (hk : k < 16) : (∃ j, j < n ∧ dsP s (nI p) (nI q) (nI k) j) ↔ D1 (rows s) n p q k := by
  obtain ⟨nd, d1, d2, d3, -⟩ := h.2.2.2.2.2.1
  have d2' : s.2.1 23 0 15 = nI nd := d2
  have e : nd = n := (nI_eq (by omega) (by omega)).mp (d2'.symm.trans hn)
  subst e
  have key : ∀ j, j < nd → (dsP s (nI p) (nI q) (nI k) j ↔ (s.2.1 23 0 j = nI (p + 16 * q + 256 * k) ∨ s.2.1 23 0 j = nI (q + 16 * p + 256 * k))) := by
    intro j hj
    obtain ⟨p', q', k', h1, h2, h3, h4⟩ := d3 j hj
    have h4' : s.2.1 23 0 j = nI (p' + 16 * q' + 256 * k') := h4
    have hb : p' + 16 * q' + 256 * k' < 4096 := by omega
    have e0 := dse (x := p' + 16 * q' + 256 * k') (p := p) (q := q) (k := k) ⟨p', q', k', h1, h2, h3, rfl⟩ hp hq
    have e1 : irm (nI (p' + 16 * q' + 256 * k')) 16 = nI ((p' + 16 * q' + 256 * k') % 16) := irmN (d := 16) (by omega) (by decide) (by decide)
    have e2 : nI (p' + 16 * q' + 256 * k') / 16 = nI ((p' + 16 * q' + 256 * k') / 16) := divN (d := 16) (by omega) (by decide) (by decide)
    have e3 : irm (nI ((p' + 16 * q' + 256 * k') / 16)) 16 = nI ((p' + 16 * q' + 256 * k') / 16 % 16) := irmN (d := 16) (by omega) (by decide) (by decide)
    have e4 : nI (p' + 16 * q' + 256 * k') / 256 = nI ((p' + 16 * q' + 256 * k') / 256) := divN (d := 256) (by omega) (by decide) (by decide)
    unfold dsP
    rw [h4', e1, e2, e3, e4, nI_eq (by omega) (by omega), nI_eq (by omega) (by omega), nI_eq (by omega) (by omega), nI_eq (by omega) (by omega), nI_eq (by omega) (by omega), nI_eq (by omega) (by omega), nI_eq (by omega) (by omega)]
    exact e0
  unfold D1
  constructor
  · rintro ⟨j, hj, w⟩
    exact ⟨j, hj, (key j hj).mp w⟩
  · rintro ⟨j, hj, w⟩
    exact ⟨j, hj, (key j hj).mpr w⟩
theorem ds_n (h : Rg t fa mo T (rows s) s) : ∃ n, n ≤ 15 ∧ s.2.1 23 0 15 = nI n := h.2.2.2.2.2.1.elim fun n w => ⟨n, w.1, w.2.1⟩
/-- no other kind is dispensed -/
theorem ds_4 (h : Rg t fa mo T (rows s) s) {n p q : Nat} (hn : s.2.1 23 0 15 = nI n) (hn2 : n ≤ 15) (hp : p < 16) (hq : q < 16) : ¬ ∃ j, j < n ∧ dsP s (nI p) (nI q) (nI 4) j := by
  rw [ds_cl h hn hn2 hp hq (by decide)]
  obtain ⟨nd, d1, d2, d3, -⟩ := h.2.2.2.2.2.1
  have d2' : s.2.1 23 0 15 = nI nd := d2
  have e : nd = n := (nI_eq (by omega) (by omega)).mp (d2'.symm.trans hn)
  subst e
  rintro ⟨j, hj, w⟩
  obtain ⟨p', q', k', h1, h2, h3, h4⟩ := d3 j hj
  rw [h4, nI_eq (by omega) (by omega), nI_eq (by omega) (by omega)] at w
  omega
/-- what hinders and stays, in class and law -/
theorem lh_cl (h : Rg t fa mo T (rows s) s) (ht : t ≤ 64) {p q n : Nat} (hp : p < s.1 0) (hq : q < s.1 0) (hn : s.2.1 23 0 15 = nI n) (hn2 : n ≤ 15) : ∃ a b c x y z : Nat, (a < 2 ∧ b < 2 ∧ c < 2) ∧ (x < 2 ∧ y < 2 ∧ z < 2) ∧ hinV s (kinV (lnF fa mo p) (lnF fa mo q) p q) p q (s.2.1 30 0 0) = nI (a + 2 * b + 8 * c) ∧
    (b = 1 ↔ (ilC s (nI p) (nI q) ∨ dgC s (nI p) (nI q) ≤ 4)) ∧ (x = 1 ↔ ∃ j, j < n ∧ dsP s (nI p) (nI q) (nI 1) j) ∧ (y = 1 ↔ ∃ j, j < n ∧ dsP s (nI p) (nI q) (nI 2) j) ∧ (z = 1 ↔ ∃ j, j < n ∧ dsP s (nI p) (nI q) (nI 8) j) ∧
    lhC s (nI p) (nI q) = nI (a * (1 - x) + 2 * (b * (1 - y)) + 8 * (c * (1 - z))) := by
  have hnn := (Rg_n h).1
  obtain ⟨a, b, c, ⟨l1, l2, l3⟩, e1, e2, e3, e4, e5⟩ := hin_cl h ht hp hq
  obtain ⟨nd, d1, d2, d3, d4⟩ := h.2.2.2.2.2.1
  have d2' : s.2.1 23 0 15 = nI nd := d2
  have e : nd = n := (nI_eq (by omega) (by omega)).mp (d2'.symm.trans hn)
  subst e
  obtain ⟨x, y, z, ⟨m1, m2, m3⟩, f1, f2, f3, f4⟩ := d4 p q (by omega) (by omega)
  refine ⟨a, b, c, x, y, z, ⟨l1, l2, l3⟩, ⟨m1, m2, m3⟩, e1, e4, ?_, ?_, ?_, ?_⟩
  · rw [f2, ds_cl h hn hn2 (by omega) (by omega) (by decide)]
  · rw [f3, ds_cl h hn hn2 (by omega) (by omega) (by decide)]
  · rw [f4, ds_cl h hn hn2 (by omega) (by omega) (by decide)]
  · unfold lhC
    rw [e2, clN (by omega), clN (by omega), f1]
    exact bit_kp a l1 b l2 c l3 x m1 y m2 z m3
/-- what can be dispensed: kind 1, 2, 8 -/
theorem cb_1 (h : Rg t fa mo T (rows s) s) (ht : t ≤ 64) {p q : Nat} (hp : p < s.1 0) (hq : q < s.1 0) : cbD s (nI p) (nI q) 1 ↔ (¬ s.2.1 30 0 0 - s.2.1 21 0 p < 5040 ∧ ¬ s.2.1 30 0 0 - s.2.1 21 0 q < 5040) := by
  have e := aoy_lt h (c := 5040) ht hp hq (by decide)
  obtain ⟨d, hd, ed1, ed2⟩ := h.1.2.2.2.2.2
  obtain ⟨_, _, _, _, _, -, -, -, b1, -, -⟩ := (h.2.1.1 p hp).2.2
  obtain ⟨_, _, _, _, _, -, -, -, b2, -, -⟩ := (h.2.1.1 q hq).2.2
  have b1' : s.2.1 21 0 p = s.2.1 12 p 0 := b1
  have b2' : s.2.1 21 0 q = s.2.1 12 q 0 := b2
  have ed2' : s.2.1 30 0 0 = nI d := ed2
  have e' : aoy s (nI p) (nI q) < 5040 ↔ (s.2.1 1 0 7 - s.2.1 12 p 0 < 5040 ∨ s.2.1 1 0 7 - s.2.1 12 q 0 < 5040) := e
  unfold cbD
  rw [e', b1', b2', ed2', ed1]
  constructor
  · rintro (⟨-, w⟩ | ⟨w, -⟩ | w)
    · exact not_or.mp w
    · exact absurd w (by decide)
    · exact absurd w (by decide)
  · intro w
    exact Or.inl ⟨rfl, not_or.mpr w⟩
theorem cb_2 (h : Rg t fa mo T (rows s) s) {p q : Nat} (hp : p < s.1 0) (hq : q < s.1 0) (hb : ilC s (nI p) (nI q) ∨ dgC s (nI p) (nI q) ≤ 4) : cbD s (nI p) (nI q) 2 ↔ (kinV (lnF fa mo p) (lnF fa mo q) p q = 300 ∨ kinV (lnF fa mo p) (lnF fa mo q) p q = 400) := by
  have g : cbD s (nI p) (nI q) 2 ↔ (¬ ilC s (nI p) (nI q) ∧ ¬ dgC s (nI p) (nI q) ≤ 2) := by
    unfold cbD
    constructor
    · rintro (⟨w, -⟩ | ⟨-, w⟩ | w)
      · exact absurd w (by decide)
      · exact w
      · exact absurd w (by decide)
    · intro w
      exact Or.inr (Or.inl ⟨rfl, w⟩)
  rw [g]
  rcases kin_cl h hp hq with ⟨e1, e2, e3⟩ | ⟨dg, il, h1, h2, e1, e2, e3⟩
  · exact absurd hb (fun z => z.elim e2 (by rw [e1]; decide))
  · have a1 : nI (100 * dg + il) = 300 ↔ 100 * dg + il = 300 := nI_eq (b := 300) (by omega) (by decide)
    have a2 : nI (100 * dg + il) = 400 ↔ 100 * dg + il = 400 := nI_eq (b := 400) (by omega) (by decide)
    have a3 : nI dg ≤ 2 ↔ dg ≤ 2 := nI_leI (b := 2) (by omega) (by decide)
    have a4 : nI dg ≤ 4 ↔ dg ≤ 4 := nI_leI (b := 4) (by omega) (by decide)
    rw [e1, e2, a4] at hb
    rw [e1, e2, e3, a1, a2, a3]
    omega
theorem cb_8 {p q : Int32} : cbD s p q 8 := Or.inr (Or.inr rfl)
theorem disp_1 {p q : Nat} {c : Int32} (hR : Rl t s) (hp : p < 100) (hq : q < 100) (hc : ¬ (p < s.1 0 ∧ q < s.1 0)) : sp_L_does [aR 1 0, aI 6, aI (nI p), aI (nI q), aI c, aI 0] s (Dn (-3000000) t) X :=
  do_6 ⟨Rl_CI hR, fun _ => ⟨rfl, hR⟩, fun z => absurd ⟨(iCs hR (by decide) hp).mp z.1, (iCs hR (by decide) hq).mp z.2⟩ hc⟩
theorem disp_2 {p q : Nat} {c : Int32} (hR : Rl t s) (hp : p < s.1 0) (hq : q < s.1 0) (hc : ¬ (¬ p = q ∧ (c = 1 ∨ c = 2 ∨ c = 8))) : sp_L_does [aR 1 0, aI 6, aI (nI p), aI (nI q), aI c, aI 0] s (Dn (-2000000) t) X := by
  have := Rl_n hR
  refine do_6 ⟨Rl_CI hR, fun z => absurd ⟨(iCs hR (by decide) (by omega)).mpr hp, (iCs hR (by decide) (by omega)).mpr hq⟩ z, fun _ => ⟨fun _ => ⟨rfl, hR⟩, fun z => absurd ⟨fun w => z.1 (by rw [w]), z.2⟩ hc⟩⟩
theorem disp_3 {p q : Nat} {c : Int32} (hR : Rl t s) (hp : p < s.1 0) (hq : q < s.1 0) (hpq : ¬ p = q) (hc : c = 1 ∨ c = 2 ∨ c = 8) (hd : ¬ (¬ lhC s (nI p) (nI q) &&& c = 0 ∧ cbD s (nI p) (nI q) c)) : sp_L_does [aR 1 0, aI 6, aI (nI p), aI (nI q), aI c, aI 0] s (Dn (-1000000) t) X := by
  have := Rl_n hR
  have ne : ¬ nI p = nI q := fun z => hpq ((nI_eq (by omega) (by omega)).mp z)
  refine do_6 ⟨Rl_CI hR, fun z => absurd ⟨(iCs hR (by decide) (by omega)).mpr hp, (iCs hR (by decide) (by omega)).mpr hq⟩ z, fun _ => ⟨fun z => absurd ⟨ne, hc⟩ z, fun _ => ⟨fun _ => ⟨rfl, hR⟩, fun w1 => ⟨fun _ => ⟨rfl, hR⟩, fun w2 => absurd ⟨w1, w2⟩ hd⟩⟩⟩⟩
/-- the law's rows with one dispensation more -/
def lwD (s : Sg) (n p q k : Nat) : Sg := stS (stS s 23 0 n (nI (p + 16 * q + 256 * k))) 23 0 15 (nI (n + 1))
theorem disp_0 {p q n k : Nat} (h : Rg t fa mo T (rows s) s) (hp : p < s.1 0) (hq : q < s.1 0) (hpq : ¬ p = q) (hk : k = 1 ∨ k = 2 ∨ k = 8) (hn : s.2.1 23 0 15 = nI n) (hn2 : n < 15) (hd : ¬ lhC s (nI p) (nI q) &&& nI k = 0 ∧ cbD s (nI p) (nI q) (nI k)) :
    sp_L_does [aR 1 0, aI 6, aI (nI p), aI (nI q), aI (nI k), aI 0] (lwD s n p q k) (Dn 0 (t + 1)) X := by
  have hnn := Rg_n h
  have ne : ¬ nI p = nI q := fun z => hpq ((nI_eq (by omega) (by omega)).mp z)
  have kk : nI k = 1 ∨ nI k = 2 ∨ nI k = 8 := by
    rcases hk with rfl | rfl | rfl
    · exact Or.inl rfl
    · exact Or.inr (Or.inl rfl)
    · exact Or.inr (Or.inr rfl)
  obtain ⟨w, hw⟩ : ∃ w, w = lwD s n p q k := ⟨_, rfl⟩
  have wo : ∀ a b c, ¬ a = 23 → w.2.1 a b c = s.2.1 a b c := fun a b c ha => by rw [hw]; unfold lwD; rw [stS_get, if_neg (fun z => ha z.1), stS_get, if_neg (fun z => ha z.1)]
  have wn : w.1 = s.1 := by rw [hw]; rfl
  have wl : w = s ∨ True := Or.inr trivial
  have hlo : lhC w (nI p) (nI q) = lhC s (nI p) (nI q) := lh_o (fun _ _ => wo _ _ _ (by decide)) (fun _ _ => wo _ _ _ (by decide)) (fun _ _ => wo _ _ _ (by decide)) (fun _ _ => wo _ _ _ (by decide))
  have hcb : cbD w (nI p) (nI q) (nI k) ↔ cbD s (nI p) (nI q) (nI k) := by
    have e6 : ∀ b, w.2.1 6 b = s.2.1 6 b := fun b => funext fun c => wo _ _ _ (by decide)
    unfold cbD aoy ilC dgC
    simp only [wo 1 _ _ (by decide), wo 12 _ _ (by decide), e6]
  have hCw : CI w := CI_fr wn (fun _ => wo _ _ _ (by decide)) (fun _ => wo _ _ _ (by decide)) (fun _ => wo _ _ _ (by decide)) (Rg_CI h)
  have wiC : ∀ j, iC w 0 j = iC s 0 j := fun j => by unfold iC; rw [wn]
  have i1 : iC s 0 (nI p) := (iC_N (by omega) (by omega)).mpr hp
  have i2 : iC s 0 (nI q) := (iC_N (by omega) (by omega)).mpr hq
  rw [← hw]
  refine do_6 ⟨hCw, fun z => absurd ⟨by rw [wiC]; exact i1, by rw [wiC]; exact i2⟩ z, fun _ => ⟨fun z => absurd ⟨ne, kk⟩ z, fun _ => ⟨fun z => absurd (by rw [hlo]; exact hd.1) z, fun _ => ⟨fun z => absurd (hcb.mpr hd.2) z, fun _ => ⟨rfl, ?_⟩⟩⟩⟩⟩
  have cp : cl (nI p) = p := clN (by omega)
  have cq : cl (nI q) = q := clN (by omega)
  obtain ⟨y, hy⟩ : ∃ y, y = dsS w (nI p) (nI q) (nI k) := ⟨_, rfl⟩
  rw [← hy]
  have y1 : y.1 = s.1 := by rw [hy]; exact wn
  have yw : ∀ a b c, ¬ a = 8 → y.2.1 a b c = w.2.1 a b c := fun a b c ha => by
    rw [hy]
    unfold dsS
    rw [stS_get, if_neg (fun z => ha z.1), stS_get, if_neg (fun z => ha z.1)]
  have yo : ∀ a b c, ¬ a = 8 → ¬ a = 23 → y.2.1 a b c = s.2.1 a b c := fun a b c h1 h2 => (yw a b c h1).trans (wo a b c h2)
  have y8 : ∀ b c, y.2.1 8 b c = if b = q ∧ c = p then s.2.1 8 q p ||| nI k else if b = p ∧ c = q then s.2.1 8 p q ||| nI k else s.2.1 8 b c := fun b c => by
    have inner : (stS w 8 p q (w.2.1 8 p q ||| nI k)).2.1 8 q p = s.2.1 8 q p := by rw [stS_get, if_neg (fun w => hpq w.2.1.symm), wo _ _ _ (by decide)]
    rw [hy]
    unfold dsS
    rw [cp, cq, inner, stS_get, stS_get]
    by_cases w1 : b = q ∧ c = p
    · rw [if_pos ⟨rfl, w1⟩, if_pos w1]
    · rw [if_neg (fun w => w1 w.2), if_neg w1]
      by_cases w2 : b = p ∧ c = q
      · rw [if_pos ⟨rfl, w2⟩, if_pos w2, wo _ _ _ (by decide)]
      · rw [if_neg (fun w => w2 w.2), if_neg w2, wo _ _ _ (by decide)]
  have y23 : ∀ j, y.2.1 23 0 j = if j = 15 then nI (n + 1) else if j = n then nI (p + 16 * q + 256 * k) else s.2.1 23 0 j := fun j => by
    rw [yw _ _ _ (by decide), hw]
    unfold lwD
    rw [stS_get]
    by_cases e : j = 15
    · rw [if_pos ⟨rfl, rfl, e⟩, if_pos e]
    · rw [if_neg (fun z => e z.2.2), if_neg e, stS_get]
      by_cases e2 : j = n
      · rw [if_pos ⟨rfl, rfl, e2⟩, if_pos e2]
      · rw [if_neg (fun z => e2 z.2.2), if_neg e2]
  obtain ⟨h0, hP, h2, h3, h4, h5, h6⟩ := Rg_mono (t2 := t + 1) (Nat.le_succ t) h
  have hn16 := h0.2.2.2.1
  refine ⟨fa, mo, T, R0_fr (r := rows s) (s := s) y1 (fun _ => yo _ _ _ (by decide) (by decide)) (fun _ => yo _ _ _ (by decide) (by decide)) (fun _ => yo _ _ _ (by decide) (by decide)) (yo _ _ _ (by decide) (by decide)) (fun _ => yo _ _ _ (by decide) (by decide)) h0, RPe_fr (r := rows s) (s := s) (by rw [y1]) (fun _ _ => yo _ _ _ (by decide) (by decide)) (fun _ _ => yo _ _ _ (by decide) (by decide)) (fun _ _ => yo _ _ _ (by decide) (by decide)) hn16.1 hP,
    RV_fr (r := rows s) (s := s) (by rw [y1]) (by rw [y1]) (fun _ _ => yo _ _ _ (by decide) (by decide)) (fun _ => yo _ _ _ (by decide) (by decide)) (fun _ _ => yo _ _ _ (by decide) (by decide)) (fun _ => yo _ _ _ (by decide) (by decide)) hn16.2.1 h2,
    RC_fr (r := rows s) (s := s) (by rw [y1]) (by rw [y1]) (fun _ _ => yo _ _ _ (by decide) (by decide)) (fun _ _ => yo _ _ _ (by decide) (by decide)) (fun _ _ => yo _ _ _ (by decide) (by decide)) (fun _ _ => yo _ _ _ (by decide) (by decide)) (fun _ _ => yo _ _ _ (by decide) (by decide)) (fun _ _ => yo _ _ _ (by decide) (by decide)) (fun _ _ => yo _ _ _ (by decide) (by decide)) (fun _ _ => yo _ _ _ (by decide) (by decide)) hn16.2.2 h3,
    RF9_fr (r := rows s) (s := s) (fun _ _ => yo _ _ _ (by decide) (by decide)) (fun _ => yo _ _ _ (by decide) (by decide)) (fun _ => yo _ _ _ (by decide) (by decide)) h4, ?_, RS_fr (s := s) (by rw [y1]) (fun _ _ => yo _ _ _ (by decide) (by decide)) h6⟩
  obtain ⟨nd, d1, d2, d3, d4⟩ := h5
  have d2' : s.2.1 23 0 15 = nI nd := d2
  have e : nd = n := (nI_eq (by omega) (by omega)).mp (d2'.symm.trans hn)
  subst e
  have hk8 : k ≤ 8 := by omega
  have D1n : ∀ p' q' k' : Nat, p' < 16 → q' < 16 → k' < 16 → (D1 (rows y) (nd + 1) p' q' k' ↔ (D1 (rows s) nd p' q' k' ∨ (k' = k ∧ ((p' = p ∧ q' = q) ∨ (p' = q ∧ q' = p))))) := by
    intro p' q' k' hp' hq' hk'
    unfold D1 rows
    constructor
    · rintro ⟨j, hj, w⟩
      rw [y23 j, if_neg (by omega)] at w
      by_cases ej : j = nd
      · rw [if_pos ej, nI_eq (by omega) (by omega), nI_eq (by omega) (by omega)] at w
        exact Or.inr (by omega)
      · rw [if_neg ej] at w
        exact Or.inl ⟨j, by omega, w⟩
    · rintro (⟨j, hj, w⟩ | ⟨rfl, w⟩)
      · exact ⟨j, by omega, by rw [y23 j, if_neg (by omega), if_neg (by omega)]; exact w⟩
      · refine ⟨nd, by omega, ?_⟩
        rw [y23 nd, if_neg (by omega), if_pos rfl, nI_eq (by omega) (by omega), nI_eq (by omega) (by omega)]
        omega
  refine ⟨nd + 1, by omega, ?_, fun j hj => ?_, fun p' q' hp' hq' => ?_⟩
  · show y.2.1 23 0 15 = _
    rw [y23, if_pos rfl]
  · show ∃ p q k : Nat, _ ∧ _ ∧ _ ∧ y.2.1 23 0 j = _
    rw [y23, if_neg (by omega)]
    by_cases ej : j = nd
    · rw [if_pos ej]
      exact ⟨p, q, k, by omega, by omega, hk, rfl⟩
    · rw [if_neg ej]
      exact d3 j (by omega)
  · obtain ⟨x1, x2, x8, ⟨b1, b2, b3⟩, f1, f2, f3, f4⟩ := d4 p' q' hp' hq'
    rw [y8, D1n p' q' 1 hp' hq' (by decide), D1n p' q' 2 hp' hq' (by decide), D1n p' q' 8 hp' hq' (by decide), ← f2, ← f3, ← f4]
    by_cases hab : (p' = p ∧ q' = q) ∨ (p' = q ∧ q' = p)
    · have e8 : (if p' = q ∧ q' = p then s.2.1 8 q p ||| nI k else if p' = p ∧ q' = q then s.2.1 8 p q ||| nI k else s.2.1 8 p' q') = s.2.1 8 p' q' ||| nI k := by
        rcases hab with ⟨rfl, rfl⟩ | ⟨rfl, rfl⟩
        · rw [if_neg (fun w => hpq w.1), if_pos ⟨rfl, rfl⟩]
        · rw [if_pos ⟨rfl, rfl⟩]
      rw [e8, f1]
      obtain ⟨o1, o2, o3⟩ := bit_or x1 b1 x2 b2 x8 b3
      rcases hk with rfl | rfl | rfl
      · exact ⟨1, x2, x8, ⟨by decide, b2, b3⟩, o1, by simp [hab], by simp, by simp⟩
      · exact ⟨x1, 1, x8, ⟨b1, by decide, b3⟩, o2, by simp, by simp [hab], by simp⟩
      · exact ⟨x1, x2, 1, ⟨b1, b2, by decide⟩, o3, by simp, by simp, by simp [hab]⟩
    · rw [if_neg (fun w => hab (Or.inr w)), if_neg (fun w => hab (Or.inl w))]
      exact ⟨x1, x2, x8, ⟨b1, b2, b3⟩, f1, by simp [hab], by simp [hab], by simp [hab]⟩
end Do8

