section Mre
variable {own : String} {cc : ByteArray} {nL d U : Nat} {ret : Option FieldType} {pc nx : Nat}
def op_mm (f : Int32 → Int32 → Int32) (nx : Nat) : Sem := fun U k _ _ u L st s => match st with
  | .inl (.inl y) :: .inl (.inl x) :: st' => u ≤ U ∧ catS st' ≤ 8 ∧ k nx u L (aI (f x y) :: st') s
  | _ => False
theorem ok_mmin {idx : Nat} (h1 : Cond.methodLink own idx Lib.Math.min.name ∈ TB) (h2 : Cond.static Lib.Math.min.name ∈ TB) (h3 : Cond.initialized "java/lang/Math" ∈ TB) (h4 : Cond.code Lib.Math.min.name Lib.Math.min.code 2 (some .int) ∈ TB)
    (hdd : 1 ≤ d) (hd : decode cc pc = .ok (.invokestatic idx, 3)) (hn : pc + 3 = nx) : Snd own cc nL d U ret pc (op_mm (fun x y => if y < x then y else x) nx) := by
  intro g p l e R s m args below meth c w0 hC ad K N X Q hQ k hk u L st s0 h
  subst hn
  intro H locs ls hP hS hl
  unfold op_mm at h
  split at h
  · obtain ⟨hu, hcat, h⟩ := h
    have hR := hC.2.2.2.2.1
    have ht := hC.1.2.2.2.2
    subst hR
    refine va_mmin hC.1.1 hC.1.2.1 (by rw [hC.1.2.2.1]; exact hl.1.symm) (own := own) hC.1.2.2.2.1 (ht _ (List.mem_cons_of_mem _ h1)) (ht _ (List.mem_cons_of_mem _ h2)) (ht _ (List.mem_cons_of_mem _ h3)) (ht _ (List.mem_cons_of_mem _ h4)) hdd ?_ (Nat.mul_le_mul_right _ hu) (Nat.mul_le_mul_right _ hu) hd (hk _ _ _ _ _ h H locs ls hP hS hl)
    show _ + 13 ≤ 38 * d
    rw [catS_ok]
    omega
  · exact h.elim
theorem ok_mmax {idx : Nat} (h1 : Cond.methodLink own idx Lib.Math.max.name ∈ TB) (h2 : Cond.static Lib.Math.max.name ∈ TB) (h3 : Cond.initialized "java/lang/Math" ∈ TB) (h4 : Cond.code Lib.Math.max.name Lib.Math.max.code 2 (some .int) ∈ TB)
    (hdd : 1 ≤ d) (hd : decode cc pc = .ok (.invokestatic idx, 3)) (hn : pc + 3 = nx) : Snd own cc nL d U ret pc (op_mm (fun x y => if x < y then y else x) nx) := by
  intro g p l e R s m args below meth c w0 hC ad K N X Q hQ k hk u L st s0 h
  subst hn
  intro H locs ls hP hS hl
  unfold op_mm at h
  split at h
  · obtain ⟨hu, hcat, h⟩ := h
    have hR := hC.2.2.2.2.1
    have ht := hC.1.2.2.2.2
    subst hR
    refine va_mmax hC.1.1 hC.1.2.1 (by rw [hC.1.2.2.1]; exact hl.1.symm) (own := own) hC.1.2.2.2.1 (ht _ (List.mem_cons_of_mem _ h1)) (ht _ (List.mem_cons_of_mem _ h2)) (ht _ (List.mem_cons_of_mem _ h3)) (ht _ (List.mem_cons_of_mem _ h4)) hdd ?_ (Nat.mul_le_mul_right _ hu) (Nat.mul_le_mul_right _ hu) hd (hk _ _ _ _ _ h H locs ls hP hS hl)
    show _ + 13 ≤ 38 * d
    rw [catS_ok]
    omega
  · exact h.elim
theorem swK_ok : ∀ {es : List (Int32 × Nat)} {dd : Nat} {x : Int32} {k : Nat → Prop}, swK es dd x k → (∃ (i : Nat) (e : Int32 × Nat), es[i]? = some e ∧ x = e.1 ∧ k e.2) ∨ ((∀ e ∈ es, ¬ x = e.1) ∧ k dd)
  | [], dd, x, k, h => Or.inr ⟨(fun e he => nomatch he), h⟩
  | (v, t) :: r, dd, x, k, h => by
    by_cases hx : x = v
    · exact Or.inl ⟨0, (v, t), rfl, hx, h.1 hx⟩
    · rcases swK_ok (h.2 hx) with ⟨i, e, h1, h2, h3⟩ | ⟨h1, h2⟩
      · exact Or.inl ⟨i + 1, e, h1, h2, h3⟩
      · exact Or.inr ⟨fun e he => (List.mem_cons.mp he).elim (fun q => by rw [q]; exact hx) (h1 e), h2⟩
theorem swO_in : ∀ {es : List (Int32 × Nat)} {pc : Nat} {dflt : Int} {x : Int32} {i : Nat} {e : Int32 × Nat}, es[i]? = some e → x = e.1 → (es.map (·.1)).Nodup → (pc : Int) + Op.lookupswitch.offset (es.map (fun e => (e.1.toInt, (e.2 : Int) - pc))) dflt x.toInt = (e.2 : Int)
  | [], _, _, _, i, e, h, _, _ => by simp at h
  | (v, t) :: r, pc, dflt, x, 0, e, h, hx, _ => by
    cases h
    rw [hx]
    show (pc : Int) + Op.lookupswitch.offset ((v.toInt, (t : Int) - pc) :: _) dflt v.toInt = t
    rw [Op.lookupswitch.offset_cons, if_pos rfl]
    omega
  | (v, t) :: r, pc, dflt, x, i + 1, e, h, hx, hn => by
    have hr : r[i]? = some e := h
    rw [List.map_cons, List.nodup_cons] at hn
    have hne : ¬ x = v := by
      rintro rfl
      exact hn.1 (List.mem_map.mpr ⟨e, List.mem_of_getElem? hr, hx.symm⟩)
    show (pc : Int) + Op.lookupswitch.offset ((v.toInt, (t : Int) - pc) :: _) dflt x.toInt = e.2
    rw [lv_osw hne rfl]
    exact swO_in hr hx hn.2
theorem swO_out : ∀ {es : List (Int32 × Nat)} {pc : Nat} {dflt : Int} {x : Int32}, (∀ e ∈ es, ¬ x = e.1) → Op.lookupswitch.offset (es.map (fun e => (e.1.toInt, (e.2 : Int) - pc))) dflt x.toInt = dflt
  | [], _, _, _, _ => rfl
  | (v, t) :: r, pc, dflt, x, h => by
    show Op.lookupswitch.offset ((v.toInt, (t : Int) - pc) :: _) dflt x.toInt = dflt
    rw [lv_osw (h (v, t) List.mem_cons_self) rfl]
    exact swO_out (fun e he => h e (List.mem_cons_of_mem _ he))
theorem ok_lookup {dflt : Int} {ps : Array (Int × Int)} {len dd : Nat} {es : List (Int32 × Nat)} (hps : ps.toList = es.map (fun e => (e.1.toInt, (e.2 : Int) - pc))) (hnd : (es.map (·.1)).Nodup) (hdf : (pc : Int) + dflt = (dd : Int))
    (hp : (ps.toList.zip (ps.toList.drop 1)).all (fun (a, next) => a.1 < next.1) = true) (hd : decode cc pc = .ok (.lookupswitch dflt ps, len)) : Snd own cc nL d U ret pc (op_sw es dd) := by
  intro g p l e R s m args below meth c w0 hC ad K N X Q hQ k hk u L st s0 h
  intro H locs ls hP hS hl
  unfold op_sw at h
  split at h
  · rename_i x st'
    rcases swK_ok h with ⟨i, e, h1, h2, h3⟩ | ⟨h1, h2⟩
    · exact lv_lookup hC.1.1 hC.1.2.1 hd hp rfl (by rw [hps]; exact swO_in h1 h2 hnd) (hk _ _ _ _ _ h3 H locs ls hP hS hl)
    · exact lv_lookup hC.1.1 hC.1.2.1 hd hp rfl (by rw [hps, swO_out h1]; exact hdf) (hk _ _ _ _ _ h2 H locs ls hP hS hl)
  · exact h.elim
theorem ok_table {dflt lo hi : Int} {offs : Array Int} {len dd : Nat} {es : List (Int32 × Nat)} (hes : es.map (·.1.toInt) = (List.range es.length).map (fun i : Nat => lo + (i : Int))) (hof : offs.toList = es.map (fun e => (e.2 : Int) - pc)) (hh : lo + (es.length : Int) = hi + 1) (hdf : (pc : Int) + dflt = (dd : Int))
    (hd : decode cc pc = .ok (.tableswitch dflt lo hi offs, len)) : Snd own cc nL d U ret pc (op_sw es dd) := by
  intro g p l e R s m args below meth c w0 hC ad K N X Q hQ k hk u L st s0 h
  intro H locs ls hP hS hl
  have hat : ∀ (i : Nat) (e : Int32 × Nat), es[i]? = some e → e.1.toInt = lo + (i : Int) := by
    intro i e he
    have hi : i < es.length := (List.getElem?_eq_some_iff.mp he).1
    have h9 := congrArg (fun q : List Int => q[i]?) hes
    simp only [List.getElem?_map, he, List.getElem?_range hi, Option.map_some] at h9
    exact Option.some.inj h9
  unfold op_sw at h
  split at h
  · rename_i x st'
    rcases swK_ok h with ⟨i, e, h1, h2, h3⟩ | ⟨h1, h2⟩
    · have hi : i < es.length := (List.getElem?_eq_some_iff.mp h1).1
      have hx := hat i e h1
      rw [← h2] at hx
      refine lv_tableIn hC.1.1 hC.1.2.1 hd (off := (e.2 : Int) - pc) (tgt := e.2) (by omega) (by omega) ?_ (by omega) (hk _ _ _ _ _ h3 H locs ls hP hS hl)
      rw [show (x.toInt - lo).toNat = i by omega, ← Array.getElem?_toList, hof, List.getElem?_map, h1]
      rfl
    · refine lv_tableOut hC.1.1 hC.1.2.1 hd ?_ hdf (hk _ _ _ _ _ h2 H locs ls hP hS hl)
      by_cases hlo : x.toInt < lo
      · exact Or.inl hlo
      · by_cases hhi : hi < x.toInt
        · exact Or.inr hhi
        · exfalso
          have hlt : (x.toInt - lo).toNat < es.length := by omega
          have he : es[(x.toInt - lo).toNat]? = some es[(x.toInt - lo).toNat] := List.getElem?_eq_getElem hlt
          have h5 := hat _ _ he
          exact h1 _ (List.mem_of_getElem? he) (Int32.toInt_inj.mp (by rw [h5]; omega))
  · exact h.elim
/-- an exception of one's own -/
def op_thr (x : Nat) : Sem := fun U _ _ X u _ st s => u + 1 ≤ U ∧ catS st ≤ 8 ∧ X x s
theorem ok_throw {ik is ic x : Nat} {text : String} (htx : (is, text) ∈ txts)
    (hk : Cond.classLink "VowCourt" ik (exn x) ∈ TB) (hi : Cond.initialized (exn x) ∈ TB) (hfit : Bundle.fit (exn x) = true) (hat : ((vx_atS "VowCourt" ic (exn x) ["java/lang/RuntimeException", "java/lang/Exception"]).filter goodWord).all (fun w => decide (w ∈ TB)) = true)
    (hng : (vx_atS "VowCourt" ic (exn x) ["java/lang/RuntimeException", "java/lang/Exception"]).all (fun w => goodWord w || decide (w ∈ XW)) = true)
    (hdd : 6 ≤ d) (d0 : decode cc pc = .ok (.new ik, 3)) (d3 : decode cc (pc + 3) = .ok (.dup, 1)) (d4 : decode cc (pc + 4) = .ok (.ldc is, 2)) (d6 : decode cc (pc + 6) = .ok (.invokespecial ic, 3)) (d9 : decode cc (pc + 9) = .ok (.athrow, 1)) :
    Snd "VowCourt" cc nL d U ret pc (op_thr x) := by
  intro g p l e R s m args below meth c w0 hC ad K N X Q hQ k hk' u L st s0 h
  intro H locs ls hP hS hl
  obtain ⟨hu, hcat, h⟩ := h
  obtain ⟨hF, hGS, hlk, hret, hR, hl0, htab⟩ := hC
  subst hR
  have ht : ∀ w ∈ TB, w.before args s = true := fun w hw => hF.2.2.2.2 w (List.mem_cons_of_mem _ hw)
  obtain ⟨sa, hsa⟩ := hGS.2.2.2.1.1 _ htx
  have hgd : ∀ w ∈ vx_atS "VowCourt" ic (exn x) ["java/lang/RuntimeException", "java/lang/Exception"], goodWord w = true ∨ w ∈ XW := by
    intro w hw
    have := List.all_eq_true.mp hng w hw
    simpa using this
  refine W.mono hQ (vx_throwS (own := "VowCourt") (cls := exn x) (text := text) (names := ["java/lang/RuntimeException", "java/lang/Exception"]) (ik := ik) (is := is) (ic := ic) (A := gA g) hF.1 hF.2.1 hl0 hF.2.2.2.1 hfit (by decide) (ht _ hk) (ht _ hi) hsa ?_ ?_ hGS.2.1 hGS.2.2.1 hS (hl.1.trans hF.2.2.1.symm) d0 d3 d4 d6 d9
    (fun z hz => (htab z hz).elim) (by show 2 + 3 < d; omega) (by show _ + _ ≤ 38 * d; rw [catS_ok]; simp only [List.length_cons, List.length_nil]; omega) ?_ ?_ hlk ?_ hS.2.2 ?_ ?_)
  · intro w hw
    rcases hgd w hw with q | hx
    · exact ht _ (of_decide_eq_true (List.all_eq_true.mp hat w (List.mem_filter.mpr ⟨hw, q⟩)))
    · exact va_Nw.use (XW_tab hx) (hGS.2.2.2.2.1 _ hx)
  · intro w hw
    rcases List.mem_cons.mp hw with rfl | hw
    · rfl
    · rcases List.mem_cons.mp hw with rfl | hw
      · rfl
      · rcases hgd w hw with q | hx
        · unfold vx_ot; rw [q, Bool.or_true]
        · unfold vx_ot; rw [XW_tab hx, Bool.true_or]
  · show u * cU + 1 ≤ U * cU
    unfold cU; omega
  · show u * sU + 6 ≤ U * sU
    unfold sU; omega
  · intro t ht1 ht2 ht3
    refine ⟨⟨x, s0, rfl, h, ?_, hP.2.1, hP.2.2.1, Nat.le_trans hP.2.2.2.1 ht2, hP.2.2.2.2⟩, ?_⟩
    · exact hP.1.kept (fun k9 z hz => ht3 _ ((hP.1 k9 z hz).lt))
    · exact ⟨Nat.le_trans hS.1 ht2, fun q h1 h2 => by rw [ht3 q (Nat.lt_of_lt_of_le h1 hS.1)]; exact hS.2.1 q h1 h2⟩
  · unfold cU; omega
  · unfold sU; omega
end Mre
